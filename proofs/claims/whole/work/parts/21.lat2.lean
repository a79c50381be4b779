/-! more of the lattice: changes, tries, cooling -/
theorem i32_as (a b p q : Int32) : a - b + (p - q) = a + p - (b + q) := by
  simp only [Int32.sub_eq_add_neg, Int32.neg_add]
  ac_rfl
theorem gt_sub {a b : Nat} (ha : a < 2 ^ 30) (hb : b < 2 ^ 30) : (0 < nI a - nI b) = (b < a) := propext (by
  rw [Int32.lt_iff_toInt_lt, pk_sub_toInt ha hb]
  show (0 : Int) < _ ↔ _
  omega)
theorem lt_sub {a b : Nat} (ha : a < 2 ^ 30) (hb : b < 2 ^ 30) : (nI a - nI b < 0) = (a < b) := propext (by
  rw [Int32.lt_iff_toInt_lt, pk_sub_toInt ha hb]
  show _ < (0 : Int) ↔ _
  omega)
theorem ok_wse {x : sLat} {s : Int32} (ok : x.ok) : (x.wse s).ok := ok
theorem ok_wmk {x : sLat} {c v : Nat} (ok : x.ok) (hc : c < 36) (hv : v < 8) : (x.wmk c v).ok := by
  refine ⟨fun i => ?_, ok.2.1, ok.2.2.1, ok.2.2.2.1, ok.2.2.2.2.1, ok.2.2.2.2.2.1, ok.2.2.2.2.2.2.1, ok.2.2.2.2.2.2.2.1, ok.2.2.2.2.2.2.2.2.1, fun i hi => ?_, ok.2.2.2.2.2.2.2.2.2.2⟩
  · show va_up x.mk c v i < 8
    unfold va_up
    split
    · exact hv
    · exact ok.1 i
  · show va_up x.mk c v i = 0
    unfold va_up
    rw [if_neg (by omega)]
    exact ok.2.2.2.2.2.2.2.2.2.1 i hi
theorem ok_wpn {x : sLat} {c v : Nat} (ok : x.ok) (hc : c < 36) (hv : v < 2) : (x.wpn c v).ok := by
  refine ⟨ok.1, fun i => ?_, ok.2.2.1, ok.2.2.2.1, ok.2.2.2.2.1, ok.2.2.2.2.2.1, ok.2.2.2.2.2.2.1, ok.2.2.2.2.2.2.2.1, ok.2.2.2.2.2.2.2.2.1, ok.2.2.2.2.2.2.2.2.2.1, fun i hi => ?_⟩
  · show va_up x.pn c v i < 2
    unfold va_up
    split
    · exact hv
    · exact ok.2.1 i
  · show va_up x.pn c v i = 0
    unfold va_up
    rw [if_neg (by omega)]
    exact ok.2.2.2.2.2.2.2.2.2.2 i hi
theorem drV_lt {s : Int32} {m : Nat} (h : 0 < m) : drV s m < m := by rw [drV_eq]; exact Nat.mod_lt _ h
theorem at1_ok {x : sLat} (ok : x.ok) {c v : Nat} (hc : c < 36) (hv : v < 8) : (x.at1 c v).1.ok := by
  unfold sLat.at1
  repeat' split
  · exact ok
  · exact ok_wse ok
  · exact ok_wmk (ok_wse ok) hc hv
  · exact ok_wmk ok hc hv
theorem at1_le {x : sLat} {c v : Nat} : (x.at1 c v).2 ≤ 1 := by
  unfold sLat.at1
  repeat' split
  all_goals omega
/-- what changes only marks and the seed -/
def sLat.sim (y x : sLat) : Prop := y.2.2.1 = x.2.2.1 ∧ y.wi = x.wi ∧ y.he = x.he ∧ y.ne = x.ne ∧ y.ed = x.ed ∧ y.ki = x.ki ∧ y.nu = x.nu ∧ y.pn = x.pn
theorem sLat.sim.rf {x : sLat} : x.sim x := ⟨rfl, rfl, rfl, rfl, rfl, rfl, rfl, rfl⟩
theorem sLat.sim.tr {x y z : sLat} (h : z.sim y) (g : y.sim x) : z.sim x := ⟨h.1.trans g.1, h.2.1.trans g.2.1, h.2.2.1.trans g.2.2.1, h.2.2.2.1.trans g.2.2.2.1, h.2.2.2.2.1.trans g.2.2.2.2.1, h.2.2.2.2.2.1.trans g.2.2.2.2.2.1, h.2.2.2.2.2.2.1.trans g.2.2.2.2.2.2.1, h.2.2.2.2.2.2.2.trans g.2.2.2.2.2.2.2⟩
theorem sLat.sim.n {x y : sLat} (h : y.sim x) : y.n = x.n := by
  have e1 : y.hi = x.hi := h.1
  unfold sLat.n
  rw [e1, h.2.1]
theorem sLat.sim.nd {x y : sLat} (h : y.sim x) : y.nd = x.nd := by
  unfold sLat.nd
  rw [h.2.2.2.1]
theorem sLat.sim.nb {x y : sLat} (h : y.sim x) (c d : Nat) : y.nb c d = x.nb c d := by
  have e1 : y.hi = x.hi := h.1
  unfold sLat.nb
  rw [e1, h.2.1, h.2.2.2.2.1, h.2.2.2.1]
theorem sLat.sim.lk {x y : sLat} (h : y.sim x) {lk : Nat → Int32} (hk : LkOK x lk) : LkOK y lk := by
  intro c d hc hd
  rw [h.n] at hc
  rw [h.nd] at hd
  rw [h.nb]
  exact hk c d hc hd
theorem sLat.sim.pr {x y : sLat} (h : y.sim x) {pr : Nat → Int32} (hk : PrOK x pr) : PrOK y pr := by
  intro c d hc hd
  rw [hk c d hc hd]
  unfold sLat.P
  rw [h.2.2.2.2.2.1, h.2.2.2.2.2.2.1]
theorem sim_wse {x : sLat} {s : Int32} : (x.wse s).sim x := ⟨rfl, rfl, rfl, rfl, rfl, rfl, rfl, rfl⟩
theorem sim_wmk {x : sLat} {c v : Nat} : (x.wmk c v).sim x := ⟨rfl, rfl, rfl, rfl, rfl, rfl, rfl, rfl⟩
theorem at1_sim {x : sLat} {c v : Nat} : (x.at1 c v).1.sim x := by
  unfold sLat.at1
  repeat' split
  · exact sLat.sim.rf
  · exact sim_wse
  · exact sim_wmk.tr sim_wse
  · exact sim_wmk
theorem try1_sim {x : sLat} : x.try1.1.sim x := by
  unfold sLat.try1
  split
  · exact sim_wse
  · exact at1_sim.tr sim_wse
theorem try1_ok {x : sLat} (ok : x.ok) : x.try1.1.ok := by
  have h1 := sLat.n4 ok
  have h2 := sLat.n36 ok
  have h3 : drV x.se x.n < x.n := drV_lt (by omega)
  unfold sLat.try1
  split
  · exact ok_wse ok
  · exact at1_ok (ok_wse ok) (by omega) (ok.1 _)
theorem try1_le {x : sLat} : x.try1.2 ≤ 1 := by
  unfold sLat.try1
  split
  · exact Nat.zero_le 1
  · exact at1_le
theorem trN_s {x : sLat} {k : Nat} : x.trN (k + 1) = ((x.trN k).1.try1.1, (x.trN k).2 + (x.trN k).1.try1.2) := rfl
theorem trN_sim {x : sLat} : ∀ n, (x.trN n).1.sim x
  | 0 => sLat.sim.rf
  | n + 1 => by rw [trN_s]; exact try1_sim.tr (trN_sim n)
theorem trN_ok {x : sLat} (ok : x.ok) : ∀ n, (x.trN n).1.ok
  | 0 => ok
  | n + 1 => by rw [trN_s]; exact try1_ok (trN_ok ok n)
theorem trN_le {x : sLat} : ∀ n, (x.trN n).2 ≤ n
  | 0 => Nat.le_refl 0
  | n + 1 => by
    have := trN_le (x := x) n
    have := try1_le (x := (x.trN n).1)
    rw [trN_s]
    dsimp only
    omega
section LAT2
variable {AH : xH} {b : Nat} {x : sLat} {lk pr : Nat → Int32}
/-- Lattice.moreWith(c, v) -/
theorem l_moreWith (h : LatAt AH b x lk pr) (ok : x.ok) (hk : LkOK x lk) (hp : PrOK x pr) {c v : Nat} (hc : c < x.n) (hv : v < 8) {Q : xQ} (k : Q (some (.int (nI (x.E c v) - nI (x.en c)))) AH (0, 0)) : ∀ (m j : Nat), j + m = x.nd → ∀ w : Option Value,
    XR TX1_moreWith 38 [some (.ref b), some (.int (nI c)), some (.int (nI v)), some (.int (nI (sm (x.T c v) j) - nI (sm (x.T c (x.mk c)) j))), some (.int (nI (v * 8))), some (.int (nI (x.mk c * 8))), some (.int (nI (c * 8))), some (.int (nI (c * 8 + x.nd))), some (.int (nI (c * 8 + j))), w] [] AH (0, 0) Q := by
  have hn := sLat.n36 ok
  have hnd := sLat.nd8 (x := x)
  have hmc := ok.1 c
  intro m
  induction m with
  | zero =>
    intro j hj w
    rw [eX1_moreWith_38]
    simp only [eX1_moreWith_0, eX1_moreWith_1, eX1_moreWith_2, eX1_moreWith_3, eX1_moreWith_5, eX1_moreWith_6, eX1_moreWith_8, eX1_moreWith_9, eX1_moreWith_12, eX1_moreWith_13, eX1_moreWith_14, eX1_moreWith_16, eX1_moreWith_17, eX1_moreWith_19, eX1_moreWith_20, eX1_moreWith_22, eX1_moreWith_23, eX1_moreWith_25, eX1_moreWith_27, eX1_moreWith_28, eX1_moreWith_31, eX1_moreWith_32, eX1_moreWith_34, eX1_moreWith_36, eX1_moreWith_40, eX1_moreWith_42, eX1_moreWith_45, eX1_moreWith_46, eX1_moreWith_49, eX1_moreWith_51, eX1_moreWith_52, eX1_moreWith_54, eX1_moreWith_56, eX1_moreWith_59, eX1_moreWith_60, eX1_moreWith_61, eX1_moreWith_64, eX1_moreWith_66, eX1_moreWith_67, eX1_moreWith_70, eX1_moreWith_72, eX1_moreWith_73, eX1_moreWith_74, eX1_moreWith_75, eX1_moreWith_76, eX1_moreWith_79, eX1_moreWith_81, eX1_moreWith_82, eX1_moreWith_85, eX1_moreWith_87, eX1_moreWith_88, eX1_moreWith_89, eX1_moreWith_90, eX1_moreWith_91, eX1_moreWith_92, eX1_moreWith_93, eX1_moreWith_96, eX1_moreWith_99, eX1_moreWith_100, Nat.add_zero, Nat.reduceAdd, Nat.reduceLeDiff, Nat.zero_le, and_true, o_aload_0r, o_callV_0, o_const_e, o_getf_e, o_goto_e, o_iald_e, o_iald_f, o_icmp_e, o_if_e, o_ii_e, o_iinc_8, o_iload_1, o_iload_2, o_iload_3, o_iload_4, o_iload_5, o_iload_6, o_iload_7, o_iload_8, o_iload_9, o_iret_e, o_ist_3, o_ist_4, o_ist_5, o_ist_6, o_ist_7, o_ist_8, o_ist_9, tl_n, tl_s, true_and, xnlv_i, xnlv_n, xnlv_r, xwt_0, xwt_f, xwt_i, xwt_l, xwt_r, le_nI (a := c*8+x.nd) (b := c*8+j) (by omega) (by omega)]
    refine ⟨fun _ => ?_, fun g => by omega⟩
    rw [show j = x.nd by omega]
    exact k
  | succ m ih =>
    intro j hj w
    rw [eX1_moreWith_38]
    simp only [eX1_moreWith_0, eX1_moreWith_1, eX1_moreWith_2, eX1_moreWith_3, eX1_moreWith_5, eX1_moreWith_6, eX1_moreWith_8, eX1_moreWith_9, eX1_moreWith_12, eX1_moreWith_13, eX1_moreWith_14, eX1_moreWith_16, eX1_moreWith_17, eX1_moreWith_19, eX1_moreWith_20, eX1_moreWith_22, eX1_moreWith_23, eX1_moreWith_25, eX1_moreWith_27, eX1_moreWith_28, eX1_moreWith_31, eX1_moreWith_32, eX1_moreWith_34, eX1_moreWith_36, eX1_moreWith_40, eX1_moreWith_42, eX1_moreWith_45, eX1_moreWith_46, eX1_moreWith_49, eX1_moreWith_51, eX1_moreWith_52, eX1_moreWith_54, eX1_moreWith_56, eX1_moreWith_59, eX1_moreWith_60, eX1_moreWith_61, eX1_moreWith_64, eX1_moreWith_66, eX1_moreWith_67, eX1_moreWith_70, eX1_moreWith_72, eX1_moreWith_73, eX1_moreWith_74, eX1_moreWith_75, eX1_moreWith_76, eX1_moreWith_79, eX1_moreWith_81, eX1_moreWith_82, eX1_moreWith_85, eX1_moreWith_87, eX1_moreWith_88, eX1_moreWith_89, eX1_moreWith_90, eX1_moreWith_91, eX1_moreWith_92, eX1_moreWith_93, eX1_moreWith_96, eX1_moreWith_99, eX1_moreWith_100, Nat.add_zero, Nat.reduceAdd, Nat.reduceLeDiff, Nat.zero_le, and_true, o_aload_0r, o_callV_0, o_const_e, o_getf_e, o_goto_e, o_iald_e, o_iald_f, o_icmp_e, o_if_e, o_ii_e, o_iinc_8, o_iload_1, o_iload_2, o_iload_3, o_iload_4, o_iload_5, o_iload_6, o_iload_7, o_iload_8, o_iload_9, o_iret_e, o_ist_3, o_ist_4, o_ist_5, o_ist_6, o_ist_7, o_ist_8, o_ist_9, tl_n, tl_s, true_and, xnlv_i, xnlv_n, xnlv_r, xwt_0, xwt_f, xwt_i, xwt_l, xwt_r, le_nI (a := c*8+x.nd) (b := c*8+j) (by omega) (by omega), h.cls, h.g0, h.g1, h.g2, h.g3, h.g4, h.g5, h.g6, h.g7, h.g8, h.g9, h.g10, h.g11, h.rl (c := c*8+j) (by omega)]
    refine ⟨fun g => by omega, fun g => ?_⟩
    rw [hk c j hc (by omega)]
    cases hj2 : x.nb c j with
    | none =>
      have := ih (j + 1) (by omega) (some (.int (lkV none)))
      rw [sm, sm, show x.T c v j = 0 by unfold sLat.T; rw [hj2], show x.T c (x.mk c) j = 0 by unfold sLat.T; rw [hj2]] at this
      simp only [lkV, nI_1] at this ⊢
      exact ⟨fun _ => this, fun g => absurd (by decide) g⟩
    | some z =>
      have hz := sLat.nb_36 ok hj2
      have hmz := ok.1 z
      refine ⟨fun g => absurd g (nI_pos (by omega)), fun _ => ?_⟩
      have := ih (j + 1) (by omega) (some (.int (nI z)))
      rw [sm, sm, show x.T c v j = x.P v (x.mk z) by unfold sLat.T; rw [hj2], show x.T c (x.mk c) j = x.P (x.mk c) (x.mk z) by unfold sLat.T; rw [hj2]] at this
      simp only [eX1_moreWith_0, eX1_moreWith_1, eX1_moreWith_2, eX1_moreWith_3, eX1_moreWith_5, eX1_moreWith_6, eX1_moreWith_8, eX1_moreWith_9, eX1_moreWith_12, eX1_moreWith_13, eX1_moreWith_14, eX1_moreWith_16, eX1_moreWith_17, eX1_moreWith_19, eX1_moreWith_20, eX1_moreWith_22, eX1_moreWith_23, eX1_moreWith_25, eX1_moreWith_27, eX1_moreWith_28, eX1_moreWith_31, eX1_moreWith_32, eX1_moreWith_34, eX1_moreWith_36, eX1_moreWith_40, eX1_moreWith_42, eX1_moreWith_45, eX1_moreWith_46, eX1_moreWith_49, eX1_moreWith_51, eX1_moreWith_52, eX1_moreWith_54, eX1_moreWith_56, eX1_moreWith_59, eX1_moreWith_60, eX1_moreWith_61, eX1_moreWith_64, eX1_moreWith_66, eX1_moreWith_67, eX1_moreWith_70, eX1_moreWith_72, eX1_moreWith_73, eX1_moreWith_74, eX1_moreWith_75, eX1_moreWith_76, eX1_moreWith_79, eX1_moreWith_81, eX1_moreWith_82, eX1_moreWith_85, eX1_moreWith_87, eX1_moreWith_88, eX1_moreWith_89, eX1_moreWith_90, eX1_moreWith_91, eX1_moreWith_92, eX1_moreWith_93, eX1_moreWith_96, eX1_moreWith_99, eX1_moreWith_100, Nat.add_zero, Nat.reduceAdd, Nat.reduceLeDiff, Nat.zero_le, and_true, o_aload_0r, o_callV_0, o_const_e, o_getf_e, o_goto_e, o_iald_e, o_iald_f, o_icmp_e, o_if_e, o_ii_e, o_iinc_8, o_iload_1, o_iload_2, o_iload_3, o_iload_4, o_iload_5, o_iload_6, o_iload_7, o_iload_8, o_iload_9, o_iret_e, o_ist_3, o_ist_4, o_ist_5, o_ist_6, o_ist_7, o_ist_8, o_ist_9, tl_n, tl_s, true_and, xnlv_i, xnlv_n, xnlv_r, xwt_0, xwt_f, xwt_i, xwt_l, xwt_r, lkV, h.cls, h.g0, h.g1, h.g2, h.g3, h.g4, h.g5, h.g6, h.g7, h.g8, h.g9, h.g10, h.g11, h.rm hz, n8, pk_mul, nI_add, h.rr (c := v * 8 + x.mk z) (by omega), hp v (x.mk z) hv hmz, h.rr (c := x.mk c * 8 + x.mk z) (by omega), hp (x.mk c) (x.mk z) hmc hmz, i32_as, nI_1]
      exact this
theorem c_moreWith (h : LatAt AH b x lk pr) (ok : x.ok) (hk : LkOK x lk) (hp : PrOK x pr) {c v : Nat} (hc : c < x.n) (hv : v < 8) {Q : Option Value → xH → Prop} (k : Q (some (.int (nI (x.E c v) - nI (x.en c)))) AH) : XC MX1_moreWith [.ref b, .int (nI c), .int (nI v)] AH Q := by
  have hn := sLat.n36 ok
  refine XC.ofR (L := [some (.ref b), some (.int (nI c)), some (.int (nI v)), none, none, none, none, none, none, none]) KX1_moreWith (by decide +kernel) (by first | decide | exact Nat.le_of_ble_eq_true rfl) rfl ?_
  simp only [eX1_moreWith_0, eX1_moreWith_1, eX1_moreWith_2, eX1_moreWith_3, eX1_moreWith_5, eX1_moreWith_6, eX1_moreWith_8, eX1_moreWith_9, eX1_moreWith_12, eX1_moreWith_13, eX1_moreWith_14, eX1_moreWith_16, eX1_moreWith_17, eX1_moreWith_19, eX1_moreWith_20, eX1_moreWith_22, eX1_moreWith_23, eX1_moreWith_25, eX1_moreWith_27, eX1_moreWith_28, eX1_moreWith_31, eX1_moreWith_32, eX1_moreWith_34, eX1_moreWith_36, eX1_moreWith_40, eX1_moreWith_42, eX1_moreWith_45, eX1_moreWith_46, eX1_moreWith_49, eX1_moreWith_51, eX1_moreWith_52, eX1_moreWith_54, eX1_moreWith_56, eX1_moreWith_59, eX1_moreWith_60, eX1_moreWith_61, eX1_moreWith_64, eX1_moreWith_66, eX1_moreWith_67, eX1_moreWith_70, eX1_moreWith_72, eX1_moreWith_73, eX1_moreWith_74, eX1_moreWith_75, eX1_moreWith_76, eX1_moreWith_79, eX1_moreWith_81, eX1_moreWith_82, eX1_moreWith_85, eX1_moreWith_87, eX1_moreWith_88, eX1_moreWith_89, eX1_moreWith_90, eX1_moreWith_91, eX1_moreWith_92, eX1_moreWith_93, eX1_moreWith_96, eX1_moreWith_99, eX1_moreWith_100, Nat.add_zero, Nat.reduceAdd, Nat.reduceLeDiff, Nat.zero_le, and_true, o_aload_0r, o_callV_0, o_const_e, o_getf_e, o_goto_e, o_iald_e, o_iald_f, o_icmp_e, o_if_e, o_ii_e, o_iinc_8, o_iload_1, o_iload_2, o_iload_3, o_iload_4, o_iload_5, o_iload_6, o_iload_7, o_iload_8, o_iload_9, o_iret_e, o_ist_3, o_ist_4, o_ist_5, o_ist_6, o_ist_7, o_ist_8, o_ist_9, tl_n, tl_s, true_and, xnlv_i, xnlv_n, xnlv_r, xwt_0, xwt_f, xwt_i, xwt_l, xwt_r, h.cls, h.g0, h.g1, h.g2, h.g3, h.g4, h.g5, h.g6, h.g7, h.g8, h.g9, h.g10, h.g11, n8, pk_mul, h.rm (c := c) (by omega)]
  refine c_directions h ok ?_
  simp only [eX1_moreWith_0, eX1_moreWith_1, eX1_moreWith_2, eX1_moreWith_3, eX1_moreWith_5, eX1_moreWith_6, eX1_moreWith_8, eX1_moreWith_9, eX1_moreWith_12, eX1_moreWith_13, eX1_moreWith_14, eX1_moreWith_16, eX1_moreWith_17, eX1_moreWith_19, eX1_moreWith_20, eX1_moreWith_22, eX1_moreWith_23, eX1_moreWith_25, eX1_moreWith_27, eX1_moreWith_28, eX1_moreWith_31, eX1_moreWith_32, eX1_moreWith_34, eX1_moreWith_36, eX1_moreWith_40, eX1_moreWith_42, eX1_moreWith_45, eX1_moreWith_46, eX1_moreWith_49, eX1_moreWith_51, eX1_moreWith_52, eX1_moreWith_54, eX1_moreWith_56, eX1_moreWith_59, eX1_moreWith_60, eX1_moreWith_61, eX1_moreWith_64, eX1_moreWith_66, eX1_moreWith_67, eX1_moreWith_70, eX1_moreWith_72, eX1_moreWith_73, eX1_moreWith_74, eX1_moreWith_75, eX1_moreWith_76, eX1_moreWith_79, eX1_moreWith_81, eX1_moreWith_82, eX1_moreWith_85, eX1_moreWith_87, eX1_moreWith_88, eX1_moreWith_89, eX1_moreWith_90, eX1_moreWith_91, eX1_moreWith_92, eX1_moreWith_93, eX1_moreWith_96, eX1_moreWith_99, eX1_moreWith_100, Nat.add_zero, Nat.reduceAdd, Nat.reduceLeDiff, Nat.zero_le, and_true, o_aload_0r, o_callV_0, o_const_e, o_getf_e, o_goto_e, o_iald_e, o_iald_f, o_icmp_e, o_if_e, o_ii_e, o_iinc_8, o_iload_1, o_iload_2, o_iload_3, o_iload_4, o_iload_5, o_iload_6, o_iload_7, o_iload_8, o_iload_9, o_iret_e, o_ist_3, o_ist_4, o_ist_5, o_ist_6, o_ist_7, o_ist_8, o_ist_9, tl_n, tl_s, true_and, xnlv_i, xnlv_n, xnlv_r, xwt_0, xwt_f, xwt_i, xwt_l, xwt_r, nI_add]
  have := l_moreWith h ok hk hp hc hv (Q := fun v AH' _ => Q v AH') k x.nd 0 (by omega) none
  rw [show nI (sm (x.T c v) 0) - nI (sm (x.T c (x.mk c)) 0) = 0 from by show nI 0 - nI 0 = 0; decide] at this
  exact this
/-- Lattice.pinCount() -/
theorem l_pinCount (h : LatAt AH b x lk pr) (ok : x.ok) {Q : xQ} (k : Q (some (.int (nI (sm x.pn x.n)))) AH (0, 0)) : ∀ (m j : Nat), j + m = x.n →
    XR TX1_pinCount 4 [some (.ref b), some (.int (nI (sm x.pn j))), some (.int (nI j))] [] AH (0, 0) Q := by
  have hn := sLat.n36 ok
  intro m
  induction m with
  | zero =>
    intro j hj
    rw [eX1_pinCount_4]
    simp only [eX1_pinCount_0, eX1_pinCount_1, eX1_pinCount_2, eX1_pinCount_3, eX1_pinCount_5, eX1_pinCount_6, eX1_pinCount_9, eX1_pinCount_12, eX1_pinCount_13, eX1_pinCount_14, eX1_pinCount_17, eX1_pinCount_18, eX1_pinCount_19, eX1_pinCount_20, eX1_pinCount_21, eX1_pinCount_24, eX1_pinCount_27, eX1_pinCount_28, Nat.add_zero, Nat.reduceAdd, Nat.reduceLeDiff, Nat.zero_le, and_true, o_aload_0r, o_callV_0, o_const_e, o_getf_e, o_goto_e, o_iald_e, o_iald_f, o_icmp_e, o_ii_e, o_iinc_2, o_iload_1, o_iload_2, o_iret_e, o_ist_1, o_ist_2, tl_n, tl_s, true_and, xnlv_i, xnlv_n, xnlv_r, xwt_0, xwt_f, xwt_i, xwt_l, xwt_r, h.cls, h.g0, h.g1, h.g2, h.g3, h.g4, h.g5, h.g6, h.g7, h.g8, h.g9, h.g10, h.g11]
    refine c_cells h ?_
    simp only [eX1_pinCount_0, eX1_pinCount_1, eX1_pinCount_2, eX1_pinCount_3, eX1_pinCount_5, eX1_pinCount_6, eX1_pinCount_9, eX1_pinCount_12, eX1_pinCount_13, eX1_pinCount_14, eX1_pinCount_17, eX1_pinCount_18, eX1_pinCount_19, eX1_pinCount_20, eX1_pinCount_21, eX1_pinCount_24, eX1_pinCount_27, eX1_pinCount_28, Nat.add_zero, Nat.reduceAdd, Nat.reduceLeDiff, Nat.zero_le, and_true, o_aload_0r, o_callV_0, o_const_e, o_getf_e, o_goto_e, o_iald_e, o_iald_f, o_icmp_e, o_ii_e, o_iinc_2, o_iload_1, o_iload_2, o_iret_e, o_ist_1, o_ist_2, tl_n, tl_s, true_and, xnlv_i, xnlv_n, xnlv_r, xwt_0, xwt_f, xwt_i, xwt_l, xwt_r, h.cls, h.g0, h.g1, h.g2, h.g3, h.g4, h.g5, h.g6, h.g7, h.g8, h.g9, h.g10, h.g11, le_nI (a := x.n) (b := j) (by omega) (by omega)]
    refine ⟨fun _ => ?_, fun g => by omega⟩
    rw [show j = x.n by omega]
    exact k
  | succ m ih =>
    intro j hj
    rw [eX1_pinCount_4]
    simp only [eX1_pinCount_0, eX1_pinCount_1, eX1_pinCount_2, eX1_pinCount_3, eX1_pinCount_5, eX1_pinCount_6, eX1_pinCount_9, eX1_pinCount_12, eX1_pinCount_13, eX1_pinCount_14, eX1_pinCount_17, eX1_pinCount_18, eX1_pinCount_19, eX1_pinCount_20, eX1_pinCount_21, eX1_pinCount_24, eX1_pinCount_27, eX1_pinCount_28, Nat.add_zero, Nat.reduceAdd, Nat.reduceLeDiff, Nat.zero_le, and_true, o_aload_0r, o_callV_0, o_const_e, o_getf_e, o_goto_e, o_iald_e, o_iald_f, o_icmp_e, o_ii_e, o_iinc_2, o_iload_1, o_iload_2, o_iret_e, o_ist_1, o_ist_2, tl_n, tl_s, true_and, xnlv_i, xnlv_n, xnlv_r, xwt_0, xwt_f, xwt_i, xwt_l, xwt_r, h.cls, h.g0, h.g1, h.g2, h.g3, h.g4, h.g5, h.g6, h.g7, h.g8, h.g9, h.g10, h.g11]
    refine c_cells h ?_
    simp only [eX1_pinCount_0, eX1_pinCount_1, eX1_pinCount_2, eX1_pinCount_3, eX1_pinCount_5, eX1_pinCount_6, eX1_pinCount_9, eX1_pinCount_12, eX1_pinCount_13, eX1_pinCount_14, eX1_pinCount_17, eX1_pinCount_18, eX1_pinCount_19, eX1_pinCount_20, eX1_pinCount_21, eX1_pinCount_24, eX1_pinCount_27, eX1_pinCount_28, Nat.add_zero, Nat.reduceAdd, Nat.reduceLeDiff, Nat.zero_le, and_true, o_aload_0r, o_callV_0, o_const_e, o_getf_e, o_goto_e, o_iald_e, o_iald_f, o_icmp_e, o_ii_e, o_iinc_2, o_iload_1, o_iload_2, o_iret_e, o_ist_1, o_ist_2, tl_n, tl_s, true_and, xnlv_i, xnlv_n, xnlv_r, xwt_0, xwt_f, xwt_i, xwt_l, xwt_r, h.cls, h.g0, h.g1, h.g2, h.g3, h.g4, h.g5, h.g6, h.g7, h.g8, h.g9, h.g10, h.g11, le_nI (a := x.n) (b := j) (by omega) (by omega), h.rp (c := j) (by omega), nI_add, n1]
    exact ⟨fun g => by omega, fun _ => ih (j + 1) (by omega)⟩
theorem c_pinCount (h : LatAt AH b x lk pr) (ok : x.ok) {Q : Option Value → xH → Prop} (k : Q (some (.int (nI (sm x.pn x.n)))) AH) : XC MX1_pinCount [.ref b] AH Q := by
  refine XC.ofR (L := [some (.ref b), none, none]) KX1_pinCount (by decide +kernel) (by first | decide | exact Nat.le_of_ble_eq_true rfl) rfl ?_
  simp only [eX1_pinCount_0, eX1_pinCount_1, eX1_pinCount_2, eX1_pinCount_3, eX1_pinCount_5, eX1_pinCount_6, eX1_pinCount_9, eX1_pinCount_12, eX1_pinCount_13, eX1_pinCount_14, eX1_pinCount_17, eX1_pinCount_18, eX1_pinCount_19, eX1_pinCount_20, eX1_pinCount_21, eX1_pinCount_24, eX1_pinCount_27, eX1_pinCount_28, Nat.add_zero, Nat.reduceAdd, Nat.reduceLeDiff, Nat.zero_le, and_true, o_aload_0r, o_callV_0, o_const_e, o_getf_e, o_goto_e, o_iald_e, o_iald_f, o_icmp_e, o_ii_e, o_iinc_2, o_iload_1, o_iload_2, o_iret_e, o_ist_1, o_ist_2, tl_n, tl_s, true_and, xnlv_i, xnlv_n, xnlv_r, xwt_0, xwt_f, xwt_i, xwt_l, xwt_r]
  exact l_pinCount h ok k x.n 0 (by omega)
/-- Lattice.cellsWith(v) -/
theorem l_cellsWith (h : LatAt AH b x lk pr) (ok : x.ok) {v : Nat} (hv : v < 8) {Q : xQ} (k : Q (some (.int (nI (sm (fun c => if x.mk c = v then 1 else 0) x.n)))) AH (0, 0)) : ∀ (m j : Nat), j + m = x.n →
    XR TX1_cellsWith 4 [some (.ref b), some (.int (nI v)), some (.int (nI (sm (fun c => if x.mk c = v then 1 else 0) j))), some (.int (nI j))] [] AH (0, 0) Q := by
  have hn := sLat.n36 ok
  intro m
  induction m with
  | zero =>
    intro j hj
    rw [eX1_cellsWith_4]
    simp only [eX1_cellsWith_0, eX1_cellsWith_1, eX1_cellsWith_2, eX1_cellsWith_3, eX1_cellsWith_5, eX1_cellsWith_6, eX1_cellsWith_9, eX1_cellsWith_12, eX1_cellsWith_13, eX1_cellsWith_16, eX1_cellsWith_17, eX1_cellsWith_18, eX1_cellsWith_19, eX1_cellsWith_22, eX1_cellsWith_25, eX1_cellsWith_28, eX1_cellsWith_31, eX1_cellsWith_32, Nat.add_zero, Nat.reduceAdd, Nat.reduceLeDiff, Nat.zero_le, and_true, o_aload_0r, o_callV_0, o_const_e, o_getf_e, o_goto_e, o_iald_e, o_iald_f, o_icmp_e, o_iinc_2, o_iinc_3, o_iload_1, o_iload_2, o_iload_3, o_iret_e, o_ist_2, o_ist_3, tl_n, tl_s, true_and, xnlv_i, xnlv_n, xnlv_r, xwt_0, xwt_f, xwt_i, xwt_l, xwt_r, h.cls, h.g0, h.g1, h.g2, h.g3, h.g4, h.g5, h.g6, h.g7, h.g8, h.g9, h.g10, h.g11]
    refine c_cells h ?_
    simp only [eX1_cellsWith_0, eX1_cellsWith_1, eX1_cellsWith_2, eX1_cellsWith_3, eX1_cellsWith_5, eX1_cellsWith_6, eX1_cellsWith_9, eX1_cellsWith_12, eX1_cellsWith_13, eX1_cellsWith_16, eX1_cellsWith_17, eX1_cellsWith_18, eX1_cellsWith_19, eX1_cellsWith_22, eX1_cellsWith_25, eX1_cellsWith_28, eX1_cellsWith_31, eX1_cellsWith_32, Nat.add_zero, Nat.reduceAdd, Nat.reduceLeDiff, Nat.zero_le, and_true, o_aload_0r, o_callV_0, o_const_e, o_getf_e, o_goto_e, o_iald_e, o_iald_f, o_icmp_e, o_iinc_2, o_iinc_3, o_iload_1, o_iload_2, o_iload_3, o_iret_e, o_ist_2, o_ist_3, tl_n, tl_s, true_and, xnlv_i, xnlv_n, xnlv_r, xwt_0, xwt_f, xwt_i, xwt_l, xwt_r, h.cls, h.g0, h.g1, h.g2, h.g3, h.g4, h.g5, h.g6, h.g7, h.g8, h.g9, h.g10, h.g11, le_nI (a := x.n) (b := j) (by omega) (by omega)]
    refine ⟨fun _ => ?_, fun g => by omega⟩
    rw [show j = x.n by omega]
    exact k
  | succ m ih =>
    intro j hj
    have hmj := ok.1 j
    rw [eX1_cellsWith_4]
    simp only [eX1_cellsWith_0, eX1_cellsWith_1, eX1_cellsWith_2, eX1_cellsWith_3, eX1_cellsWith_5, eX1_cellsWith_6, eX1_cellsWith_9, eX1_cellsWith_12, eX1_cellsWith_13, eX1_cellsWith_16, eX1_cellsWith_17, eX1_cellsWith_18, eX1_cellsWith_19, eX1_cellsWith_22, eX1_cellsWith_25, eX1_cellsWith_28, eX1_cellsWith_31, eX1_cellsWith_32, Nat.add_zero, Nat.reduceAdd, Nat.reduceLeDiff, Nat.zero_le, and_true, o_aload_0r, o_callV_0, o_const_e, o_getf_e, o_goto_e, o_iald_e, o_iald_f, o_icmp_e, o_iinc_2, o_iinc_3, o_iload_1, o_iload_2, o_iload_3, o_iret_e, o_ist_2, o_ist_3, tl_n, tl_s, true_and, xnlv_i, xnlv_n, xnlv_r, xwt_0, xwt_f, xwt_i, xwt_l, xwt_r, h.cls, h.g0, h.g1, h.g2, h.g3, h.g4, h.g5, h.g6, h.g7, h.g8, h.g9, h.g10, h.g11]
    refine c_cells h ?_
    simp only [eX1_cellsWith_0, eX1_cellsWith_1, eX1_cellsWith_2, eX1_cellsWith_3, eX1_cellsWith_5, eX1_cellsWith_6, eX1_cellsWith_9, eX1_cellsWith_12, eX1_cellsWith_13, eX1_cellsWith_16, eX1_cellsWith_17, eX1_cellsWith_18, eX1_cellsWith_19, eX1_cellsWith_22, eX1_cellsWith_25, eX1_cellsWith_28, eX1_cellsWith_31, eX1_cellsWith_32, Nat.add_zero, Nat.reduceAdd, Nat.reduceLeDiff, Nat.zero_le, and_true, o_aload_0r, o_callV_0, o_const_e, o_getf_e, o_goto_e, o_iald_e, o_iald_f, o_icmp_e, o_iinc_2, o_iinc_3, o_iload_1, o_iload_2, o_iload_3, o_iret_e, o_ist_2, o_ist_3, tl_n, tl_s, true_and, xnlv_i, xnlv_n, xnlv_r, xwt_0, xwt_f, xwt_i, xwt_l, xwt_r, h.cls, h.g0, h.g1, h.g2, h.g3, h.g4, h.g5, h.g6, h.g7, h.g8, h.g9, h.g10, h.g11, le_nI (a := x.n) (b := j) (by omega) (by omega), h.rm (c := j) (by omega), nI_add, n1, eq_nI (a := x.mk j) (b := v) (by omega) (by omega)]
    have := ih (j + 1) (by omega)
    rw [sm] at this
    refine ⟨fun g => by omega, fun _ => ⟨fun g => ?_, fun g => ?_⟩⟩
    · rw [if_neg g] at this
      exact this
    · rw [if_pos (Classical.not_not.mp g)] at this
      exact this
theorem c_cellsWith (h : LatAt AH b x lk pr) (ok : x.ok) {v : Nat} (hv : v < 8) {Q : Option Value → xH → Prop} (k : Q (some (.int (nI (sm (fun c => if x.mk c = v then 1 else 0) x.n)))) AH) : XC MX1_cellsWith [.ref b, .int (nI v)] AH Q := by
  refine XC.ofR (L := [some (.ref b), some (.int (nI v)), none, none]) KX1_cellsWith (by decide +kernel) (by first | decide | exact Nat.le_of_ble_eq_true rfl) rfl ?_
  simp only [eX1_cellsWith_0, eX1_cellsWith_1, eX1_cellsWith_2, eX1_cellsWith_3, eX1_cellsWith_5, eX1_cellsWith_6, eX1_cellsWith_9, eX1_cellsWith_12, eX1_cellsWith_13, eX1_cellsWith_16, eX1_cellsWith_17, eX1_cellsWith_18, eX1_cellsWith_19, eX1_cellsWith_22, eX1_cellsWith_25, eX1_cellsWith_28, eX1_cellsWith_31, eX1_cellsWith_32, Nat.add_zero, Nat.reduceAdd, Nat.reduceLeDiff, Nat.zero_le, and_true, o_aload_0r, o_callV_0, o_const_e, o_getf_e, o_goto_e, o_iald_e, o_iald_f, o_icmp_e, o_iinc_2, o_iinc_3, o_iload_1, o_iload_2, o_iload_3, o_iret_e, o_ist_2, o_ist_3, tl_n, tl_s, true_and, xnlv_i, xnlv_n, xnlv_r, xwt_0, xwt_f, xwt_i, xwt_l, xwt_r]
  exact l_cellsWith h ok hv k x.n 0 (by omega)
theorem nd_wse {x : sLat} {s : Int32} : (x.wse s).nd = x.nd := rfl
theorem n_wse {x : sLat} {s : Int32} : (x.wse s).n = x.n := rfl
theorem wse_wse {x : sLat} {s t : Int32} : (x.wse s).wse t = x.wse t := rfl
theorem se_wse {x : sLat} {s : Int32} : (x.wse s).se = s := rfl
/-- Lattice.draw(m) -/
theorem c_draw (h : LatAt AH b x lk pr) {m : Nat} (h0 : 1 ≤ m) (hm : m < 2 ^ 31) {Q : Option Value → xH → Prop} (k : Q (some (.int (nI (drV x.se m)))) (latP AH b (x.wse (drS x.se)) lk pr)) : XC MX1_draw [.ref b, .int (nI m)] AH Q := by
  have h2 := h.put (x.wse (drS x.se)) lk pr
  refine XC.ofR (L := [some (.ref b), some (.int (nI m))]) KX1_draw (by decide +kernel) (by first | decide | exact Nat.le_of_ble_eq_true rfl) rfl ?_
  simp only [eX1_draw_0, eX1_draw_1, eX1_draw_2, eX1_draw_5, eX1_draw_7, eX1_draw_8, eX1_draw_11, eX1_draw_12, eX1_draw_15, eX1_draw_16, eX1_draw_17, eX1_draw_20, eX1_draw_21, eX1_draw_24, eX1_draw_25, eX1_draw_28, eX1_draw_30, eX1_draw_31, eX1_draw_33, eX1_draw_34, eX1_draw_35, eX1_draw_36, o_aload_0r, o_const_e, o_getf_e, o_goto_e, o_icmp_e, o_idiv_e, o_ii_e, o_iload_1, o_irem_e, o_iret_e, o_putf_e, true_and, xfit_a, xfit_i, xfit_l, xfit_o, h.cls, h.g0, h.g1, h.g2, h.g3, h.g4, h.g5, h.g6, h.g7, h.g8, h.g9, h.g10, h.g11, h.p7, ← drS_eq, h2.cls, h2.g0, h2.g1, h2.g2, h2.g3, h2.g4, h2.g5, h2.g6, h2.g7, h2.g8, h2.g9, h2.g10, h2.g11, se_wse]
  have e : (drS x.se) &&& 2147483647 = nI ((drS x.se).toBitVec.toNat % 2 ^ 31) := pk_and _ 31 (by decide)
  have l1 : (drS x.se).toBitVec.toNat % 2 ^ 31 < 2 ^ 31 := Nat.mod_lt _ (by decide)
  rw [e, n1, le_nI (by decide) hm, n65536, pk_div l1 (by decide) (by decide), eq0_nI hm, pk_rem (Nat.lt_of_le_of_lt (Nat.div_le_self _ _) l1) (by omega) hm, ← drV_eq]
  refine ⟨fun _ => ⟨by decide, by omega, k⟩, fun g => by omega⟩
/-- Lattice.chanceOf(c, v) -/
theorem c_chanceOf (h : LatAt AH b x lk pr) (ok : x.ok) (hk : LkOK x lk) (hp : PrOK x pr) {c v : Nat} (hc : c < x.n) (hv : v < 8) {Q : Option Value → xH → Prop} (k : Q (some (.int (nI (x.ch c v)))) AH) : XC MX1_chanceOf [.ref b, .int (nI c), .int (nI v)] AH Q := by
  have hn := sLat.n36 ok
  have hmc := ok.1 c
  have hpc := ok.2.1 c
  have hE := sLat.E_le ok (c := c) (v := v)
  have hE2 : x.en c ≤ 72 := sLat.E_le ok
  have hhe := ok.2.2.2.2.1
  unfold sLat.ch at k
  refine XC.ofR (L := [some (.ref b), some (.int (nI c)), some (.int (nI v)), none]) KX1_chanceOf (by decide +kernel) (by first | decide | exact Nat.le_of_ble_eq_true rfl) rfl ?_
  simp only [eX1_chanceOf_0, eX1_chanceOf_1, eX1_chanceOf_4, eX1_chanceOf_5, eX1_chanceOf_6, eX1_chanceOf_9, eX1_chanceOf_10, eX1_chanceOf_13, eX1_chanceOf_14, eX1_chanceOf_15, eX1_chanceOf_16, eX1_chanceOf_19, eX1_chanceOf_20, eX1_chanceOf_21, eX1_chanceOf_22, eX1_chanceOf_23, eX1_chanceOf_24, eX1_chanceOf_27, eX1_chanceOf_28, eX1_chanceOf_29, eX1_chanceOf_32, eX1_chanceOf_34, eX1_chanceOf_37, eX1_chanceOf_38, eX1_chanceOf_41, eX1_chanceOf_42, eX1_chanceOf_43, Nat.add_zero, Nat.reduceAdd, Nat.reduceLeDiff, Nat.zero_le, and_true, o_aload_0r, o_callV_2, o_const_e, o_getf_e, o_goto_e, o_iald_e, o_iald_f, o_icmp_e, o_idiv_e, o_if_e, o_iload_1, o_iload_2, o_iload_3, o_iret_e, o_ist_3, tl_n, tl_s, true_and, xnlv_i, xnlv_n, xnlv_r, xwt_0, xwt_f, xwt_i, xwt_l, xwt_r, h.cls, h.g0, h.g1, h.g2, h.g3, h.g4, h.g5, h.g6, h.g7, h.g8, h.g9, h.g10, h.g11, h.rp (c := c) (by omega), h.rm (c := c) (by omega), eq0_nI (a := x.pn c) (by omega), eq_nI (a := x.mk c) (b := v) (by omega) (by omega)]
  refine ⟨fun g => ?_, fun g => ⟨fun g2 => ?_, fun g2 => ?_⟩⟩
  · rw [if_pos (Or.inl g)] at k
    exact k
  · rw [if_neg (by intro z; rcases z with z | z <;> contradiction)] at k
    refine c_moreWith h ok hk hp hc hv ?_
    simp only [eX1_chanceOf_0, eX1_chanceOf_1, eX1_chanceOf_4, eX1_chanceOf_5, eX1_chanceOf_6, eX1_chanceOf_9, eX1_chanceOf_10, eX1_chanceOf_13, eX1_chanceOf_14, eX1_chanceOf_15, eX1_chanceOf_16, eX1_chanceOf_19, eX1_chanceOf_20, eX1_chanceOf_21, eX1_chanceOf_22, eX1_chanceOf_23, eX1_chanceOf_24, eX1_chanceOf_27, eX1_chanceOf_28, eX1_chanceOf_29, eX1_chanceOf_32, eX1_chanceOf_34, eX1_chanceOf_37, eX1_chanceOf_38, eX1_chanceOf_41, eX1_chanceOf_42, eX1_chanceOf_43, Nat.add_zero, Nat.reduceAdd, Nat.reduceLeDiff, Nat.zero_le, and_true, o_aload_0r, o_callV_2, o_const_e, o_getf_e, o_goto_e, o_iald_e, o_iald_f, o_icmp_e, o_idiv_e, o_if_e, o_iload_1, o_iload_2, o_iload_3, o_iret_e, o_ist_3, tl_n, tl_s, true_and, xnlv_i, xnlv_n, xnlv_r, xwt_0, xwt_f, xwt_i, xwt_l, xwt_r, h.cls, h.g0, h.g1, h.g2, h.g3, h.g4, h.g5, h.g6, h.g7, h.g8, h.g9, h.g10, h.g11]
    rw [gt_sub (by omega) (by omega)]
    refine ⟨fun g3 => ?_, fun g3 => ?_⟩
    · rw [if_neg (by omega)] at k
      rw [pk_sub (by omega), eq0_nI (by omega), pk_div (by omega) (by omega) (by omega)]
      exact ⟨by omega, k⟩
    · rw [if_pos (by omega)] at k
      exact k
  · rw [if_pos (Or.inr (Classical.not_not.mp g2))] at k
    exact k
theorem ch_le {x : sLat} (ok : x.ok) {c v : Nat} : x.ch c v ≤ 100 := by
  have h1 := ok.2.2.2.2.1
  unfold sLat.ch
  repeat' split
  · omega
  · omega
  · exact Nat.le_trans (Nat.div_le_self _ _) (by omega)
/-- Lattice.attempt(c, v) -/
theorem c_attempt (h : LatAt AH b x lk pr) (ok : x.ok) (hk : LkOK x lk) (hp : PrOK x pr) {c v : Nat} (hc : c < x.n) (hv : v < 8) {Q : Option Value → xH → Prop} (k : Q (some (.int (nI (x.at1 c v).2))) (latP AH b (x.at1 c v).1 lk pr)) : XC MX1_attempt [.ref b, .int (nI c), .int (nI v)] AH Q := by
  have hn := sLat.n36 ok
  have hch := ch_le ok (c := c) (v := v)
  have hdr := drV_lt (s := x.se) (m := 100) (by decide)
  unfold sLat.at1 at k
  refine XC.ofR (L := [some (.ref b), some (.int (nI c)), some (.int (nI v)), none]) KX1_attempt (by decide +kernel) (by first | decide | exact Nat.le_of_ble_eq_true rfl) rfl ?_
  simp only [eX1_attempt_0, eX1_attempt_1, eX1_attempt_2, eX1_attempt_3, eX1_attempt_6, eX1_attempt_7, eX1_attempt_8, eX1_attempt_11, eX1_attempt_12, eX1_attempt_14, eX1_attempt_17, eX1_attempt_18, eX1_attempt_20, eX1_attempt_23, eX1_attempt_24, eX1_attempt_27, eX1_attempt_28, eX1_attempt_29, eX1_attempt_30, eX1_attempt_33, eX1_attempt_34, eX1_attempt_35, eX1_attempt_36, eX1_attempt_37, Nat.add_zero, Nat.reduceAdd, Nat.reduceLeDiff, Nat.zero_le, and_true, o_aload_0r, o_callV_1, o_callV_2, o_const_e, o_getf_e, o_iast_e, o_icmp_e, o_if_e, o_iload_1, o_iload_2, o_iload_3, o_iret_e, o_ist_3, tl_n, tl_s, true_and, xnlv_i, xnlv_n, xnlv_r, xwt_0, xwt_f, xwt_i, xwt_l, xwt_r, h.cls, h.g0, h.g1, h.g2, h.g3, h.g4, h.g5, h.g6, h.g7, h.g8, h.g9, h.g10, h.g11]
  refine c_chanceOf h ok hk hp hc hv ?_
  simp only [eX1_attempt_0, eX1_attempt_1, eX1_attempt_2, eX1_attempt_3, eX1_attempt_6, eX1_attempt_7, eX1_attempt_8, eX1_attempt_11, eX1_attempt_12, eX1_attempt_14, eX1_attempt_17, eX1_attempt_18, eX1_attempt_20, eX1_attempt_23, eX1_attempt_24, eX1_attempt_27, eX1_attempt_28, eX1_attempt_29, eX1_attempt_30, eX1_attempt_33, eX1_attempt_34, eX1_attempt_35, eX1_attempt_36, eX1_attempt_37, Nat.add_zero, Nat.reduceAdd, Nat.reduceLeDiff, Nat.zero_le, and_true, o_aload_0r, o_callV_1, o_callV_2, o_const_e, o_getf_e, o_iast_e, o_icmp_e, o_if_e, o_iload_1, o_iload_2, o_iload_3, o_iret_e, o_ist_3, tl_n, tl_s, true_and, xnlv_i, xnlv_n, xnlv_r, xwt_0, xwt_f, xwt_i, xwt_l, xwt_r, h.cls, h.g0, h.g1, h.g2, h.g3, h.g4, h.g5, h.g6, h.g7, h.g8, h.g9, h.g10, h.g11, eq0_nI (a := x.ch c v) (by omega), n100, le_nI (a := 100) (b := x.ch c v) (by omega) (by omega), h.wm (c := c) (v := v) (by omega)]
  refine ⟨fun g => ?_, fun g => ⟨fun g2 => ?_, fun g2 => ?_⟩⟩
  · rw [if_pos g, latP_self h] at k
    exact k
  · rw [if_neg g, if_neg (by omega)] at k
    exact k
  · rw [if_neg g, if_pos (by omega)] at k
    refine c_draw h (by decide) (by decide) ?_
    have h2 := h.put (x.wse (drS x.se)) lk pr
    simp only [eX1_attempt_0, eX1_attempt_1, eX1_attempt_2, eX1_attempt_3, eX1_attempt_6, eX1_attempt_7, eX1_attempt_8, eX1_attempt_11, eX1_attempt_12, eX1_attempt_14, eX1_attempt_17, eX1_attempt_18, eX1_attempt_20, eX1_attempt_23, eX1_attempt_24, eX1_attempt_27, eX1_attempt_28, eX1_attempt_29, eX1_attempt_30, eX1_attempt_33, eX1_attempt_34, eX1_attempt_35, eX1_attempt_36, eX1_attempt_37, Nat.add_zero, Nat.reduceAdd, Nat.reduceLeDiff, Nat.zero_le, and_true, o_aload_0r, o_callV_1, o_callV_2, o_const_e, o_getf_e, o_iast_e, o_icmp_e, o_if_e, o_iload_1, o_iload_2, o_iload_3, o_iret_e, o_ist_3, tl_n, tl_s, true_and, xnlv_i, xnlv_n, xnlv_r, xwt_0, xwt_f, xwt_i, xwt_l, xwt_r, h2.cls, h2.g0, h2.g1, h2.g2, h2.g3, h2.g4, h2.g5, h2.g6, h2.g7, h2.g8, h2.g9, h2.g10, h2.g11, lt_nI (a := drV x.se 100) (b := x.ch c v) (by omega) (by omega), h2.wm (c := c) (v := v) (by omega)]
    refine ⟨fun g3 => ?_, fun g3 => ?_⟩
    · rw [if_neg (by omega)] at k
      rw [latP_latP h.lt]
      exact k
    · rw [if_pos (by omega)] at k
      exact k
/-- Lattice.runTries(n) -/
theorem l_runTries (h : LatAt AH b x lk pr) (ok : x.ok) (hk : LkOK x lk) (hp : PrOK x pr) {n : Nat} (hnn : n ≤ 200) {Q : xQ} (k : Q (some (.int (nI (x.trN n).2))) (latP AH b (x.trN n).1 lk pr) (0, 0)) : ∀ (m j : Nat), j + m = n → ∀ w w2 : Option Value, xnlv w →
    XR TX1_runTries 4 [some (.ref b), some (.int (nI n)), some (.int (nI (x.trN j).2)), some (.int (nI j)), w, w2] [] (latP AH b (x.trN j).1 lk pr) (0, 0) Q := by
  have hn := sLat.n36 ok
  have hn4 := sLat.n4 ok
  intro m
  induction m with
  | zero =>
    intro j hj w w2 _
    rw [eX1_runTries_4]
    simp only [eX1_runTries_0, eX1_runTries_1, eX1_runTries_2, eX1_runTries_3, eX1_runTries_5, eX1_runTries_6, eX1_runTries_9, eX1_runTries_10, eX1_runTries_11, eX1_runTries_14, eX1_runTries_17, eX1_runTries_19, eX1_runTries_20, eX1_runTries_23, eX1_runTries_25, eX1_runTries_27, eX1_runTries_28, eX1_runTries_29, eX1_runTries_30, eX1_runTries_33, eX1_runTries_36, eX1_runTries_37, eX1_runTries_38, eX1_runTries_40, eX1_runTries_42, eX1_runTries_45, eX1_runTries_46, eX1_runTries_47, eX1_runTries_49, eX1_runTries_50, eX1_runTries_53, eX1_runTries_55, eX1_runTries_56, eX1_runTries_59, eX1_runTries_60, eX1_runTries_61, eX1_runTries_64, eX1_runTries_67, eX1_runTries_68, Nat.add_zero, Nat.reduceAdd, Nat.reduceLeDiff, Nat.zero_le, and_true, o_aload_0r, o_callV_0, o_callV_1, o_callV_2, o_const_e, o_getf_e, o_goto_e, o_iald_e, o_iald_f, o_icmp_e, o_if_e, o_ii_e, o_iinc_3, o_iload_1, o_iload_2, o_iload_3, o_iload_4, o_iload_5, o_iret_e, o_ist_2, o_ist_3, o_ist_4, o_ist_5, tl_n, tl_s, true_and, xnlv_i, xnlv_n, xnlv_r, xwt_0, xwt_f, xwt_i, xwt_l, xwt_r, le_nI (a := n) (b := j) (by omega) (by omega)]
    refine ⟨fun _ => ?_, fun g => by omega⟩
    rw [show j = n by omega]
    exact k
  | succ m ih =>
    intro j hj w w2 hw
    have hj1 := h.put (x.trN j).1 lk pr
    have sj : (x.trN j).1.sim x := trN_sim j
    have okj : (x.trN j).1.ok := trN_ok ok j
    have kj := sj.lk hk
    have pj := sj.pr hp
    have hlj := trN_le (x := x) j
    have := ih (j + 1) (by omega)
    rw [trN_s] at this
    dsimp only at this
    generalize hy : (x.trN j).1 = y at *
    generalize (x.trN j).2 = t at *
    have hyn := sLat.n36 okj
    have hyn4 := sLat.n4 okj
    have hnd := sLat.nd8 (x := y)
    have hnd4 := sLat.nd4 (x := y)
    have d1 : drV y.se y.n < y.n := drV_lt (by omega)
    have d2 : drV (drS y.se) y.nd < y.nd := drV_lt (by omega)
    unfold sLat.try1 at this
    generalize hc0 : drV y.se y.n = c0 at *
    generalize hd0 : drV (drS y.se) y.nd = d0 at *
    generalize hs1 : drS y.se = s1 at *
    generalize hs2 : drS s1 = s2 at *
    rw [eX1_runTries_4]
    simp only [eX1_runTries_0, eX1_runTries_1, eX1_runTries_2, eX1_runTries_3, eX1_runTries_5, eX1_runTries_6, eX1_runTries_9, eX1_runTries_10, eX1_runTries_11, eX1_runTries_14, eX1_runTries_17, eX1_runTries_19, eX1_runTries_20, eX1_runTries_23, eX1_runTries_25, eX1_runTries_27, eX1_runTries_28, eX1_runTries_29, eX1_runTries_30, eX1_runTries_33, eX1_runTries_36, eX1_runTries_37, eX1_runTries_38, eX1_runTries_40, eX1_runTries_42, eX1_runTries_45, eX1_runTries_46, eX1_runTries_47, eX1_runTries_49, eX1_runTries_50, eX1_runTries_53, eX1_runTries_55, eX1_runTries_56, eX1_runTries_59, eX1_runTries_60, eX1_runTries_61, eX1_runTries_64, eX1_runTries_67, eX1_runTries_68, Nat.add_zero, Nat.reduceAdd, Nat.reduceLeDiff, Nat.zero_le, and_true, o_aload_0r, o_callV_0, o_callV_1, o_callV_2, o_const_e, o_getf_e, o_goto_e, o_iald_e, o_iald_f, o_icmp_e, o_if_e, o_ii_e, o_iinc_3, o_iload_1, o_iload_2, o_iload_3, o_iload_4, o_iload_5, o_iret_e, o_ist_2, o_ist_3, o_ist_4, o_ist_5, tl_n, tl_s, true_and, xnlv_i, xnlv_n, xnlv_r, xwt_0, xwt_f, xwt_i, xwt_l, xwt_r, le_nI (a := n) (b := j) (by omega) (by omega), hj1.cls, hj1.g0, hj1.g1, hj1.g2, hj1.g3, hj1.g4, hj1.g5, hj1.g6, hj1.g7, hj1.g8, hj1.g9, hj1.g10, hj1.g11]
    refine ⟨fun g => by omega, fun _ => c_cells hj1 ?_⟩
    simp only [eX1_runTries_0, eX1_runTries_1, eX1_runTries_2, eX1_runTries_3, eX1_runTries_5, eX1_runTries_6, eX1_runTries_9, eX1_runTries_10, eX1_runTries_11, eX1_runTries_14, eX1_runTries_17, eX1_runTries_19, eX1_runTries_20, eX1_runTries_23, eX1_runTries_25, eX1_runTries_27, eX1_runTries_28, eX1_runTries_29, eX1_runTries_30, eX1_runTries_33, eX1_runTries_36, eX1_runTries_37, eX1_runTries_38, eX1_runTries_40, eX1_runTries_42, eX1_runTries_45, eX1_runTries_46, eX1_runTries_47, eX1_runTries_49, eX1_runTries_50, eX1_runTries_53, eX1_runTries_55, eX1_runTries_56, eX1_runTries_59, eX1_runTries_60, eX1_runTries_61, eX1_runTries_64, eX1_runTries_67, eX1_runTries_68, Nat.add_zero, Nat.reduceAdd, Nat.reduceLeDiff, Nat.zero_le, and_true, o_aload_0r, o_callV_0, o_callV_1, o_callV_2, o_const_e, o_getf_e, o_goto_e, o_iald_e, o_iald_f, o_icmp_e, o_if_e, o_ii_e, o_iinc_3, o_iload_1, o_iload_2, o_iload_3, o_iload_4, o_iload_5, o_iret_e, o_ist_2, o_ist_3, o_ist_4, o_ist_5, tl_n, tl_s, true_and, xnlv_i, xnlv_n, xnlv_r, xwt_0, xwt_f, xwt_i, xwt_l, xwt_r, hj1.cls, hj1.g0, hj1.g1, hj1.g2, hj1.g3, hj1.g4, hj1.g5, hj1.g6, hj1.g7, hj1.g8, hj1.g9, hj1.g10, hj1.g11]
    refine c_draw hj1 (by omega) (by omega) ?_
    rw [latP_latP h.lt, hc0, hs1]
    have h2 := h.put (y.wse s1) lk pr
    simp only [eX1_runTries_0, eX1_runTries_1, eX1_runTries_2, eX1_runTries_3, eX1_runTries_5, eX1_runTries_6, eX1_runTries_9, eX1_runTries_10, eX1_runTries_11, eX1_runTries_14, eX1_runTries_17, eX1_runTries_19, eX1_runTries_20, eX1_runTries_23, eX1_runTries_25, eX1_runTries_27, eX1_runTries_28, eX1_runTries_29, eX1_runTries_30, eX1_runTries_33, eX1_runTries_36, eX1_runTries_37, eX1_runTries_38, eX1_runTries_40, eX1_runTries_42, eX1_runTries_45, eX1_runTries_46, eX1_runTries_47, eX1_runTries_49, eX1_runTries_50, eX1_runTries_53, eX1_runTries_55, eX1_runTries_56, eX1_runTries_59, eX1_runTries_60, eX1_runTries_61, eX1_runTries_64, eX1_runTries_67, eX1_runTries_68, Nat.add_zero, Nat.reduceAdd, Nat.reduceLeDiff, Nat.zero_le, and_true, o_aload_0r, o_callV_0, o_callV_1, o_callV_2, o_const_e, o_getf_e, o_goto_e, o_iald_e, o_iald_f, o_icmp_e, o_if_e, o_ii_e, o_iinc_3, o_iload_1, o_iload_2, o_iload_3, o_iload_4, o_iload_5, o_iret_e, o_ist_2, o_ist_3, o_ist_4, o_ist_5, tl_n, tl_s, true_and, xnlv_i, xnlv_n, xnlv_r, xwt_0, xwt_f, xwt_i, xwt_l, xwt_r, h2.cls, h2.g0, h2.g1, h2.g2, h2.g3, h2.g4, h2.g5, h2.g6, h2.g7, h2.g8, h2.g9, h2.g10, h2.g11, hw, n8, pk_mul]
    refine c_directions h2 (ok_wse okj) ?_
    simp only [eX1_runTries_0, eX1_runTries_1, eX1_runTries_2, eX1_runTries_3, eX1_runTries_5, eX1_runTries_6, eX1_runTries_9, eX1_runTries_10, eX1_runTries_11, eX1_runTries_14, eX1_runTries_17, eX1_runTries_19, eX1_runTries_20, eX1_runTries_23, eX1_runTries_25, eX1_runTries_27, eX1_runTries_28, eX1_runTries_29, eX1_runTries_30, eX1_runTries_33, eX1_runTries_36, eX1_runTries_37, eX1_runTries_38, eX1_runTries_40, eX1_runTries_42, eX1_runTries_45, eX1_runTries_46, eX1_runTries_47, eX1_runTries_49, eX1_runTries_50, eX1_runTries_53, eX1_runTries_55, eX1_runTries_56, eX1_runTries_59, eX1_runTries_60, eX1_runTries_61, eX1_runTries_64, eX1_runTries_67, eX1_runTries_68, Nat.add_zero, Nat.reduceAdd, Nat.reduceLeDiff, Nat.zero_le, and_true, o_aload_0r, o_callV_0, o_callV_1, o_callV_2, o_const_e, o_getf_e, o_goto_e, o_iald_e, o_iald_f, o_icmp_e, o_if_e, o_ii_e, o_iinc_3, o_iload_1, o_iload_2, o_iload_3, o_iload_4, o_iload_5, o_iret_e, o_ist_2, o_ist_3, o_ist_4, o_ist_5, tl_n, tl_s, true_and, xnlv_i, xnlv_n, xnlv_r, xwt_0, xwt_f, xwt_i, xwt_l, xwt_r, h2.cls, h2.g0, h2.g1, h2.g2, h2.g3, h2.g4, h2.g5, h2.g6, h2.g7, h2.g8, h2.g9, h2.g10, h2.g11, nd_wse]
    refine c_draw h2 (by omega) (by omega) ?_
    rw [latP_latP h.lt, se_wse, wse_wse, hs2, hd0]
    have h3 := h.put (y.wse s2) lk pr
    simp only [eX1_runTries_0, eX1_runTries_1, eX1_runTries_2, eX1_runTries_3, eX1_runTries_5, eX1_runTries_6, eX1_runTries_9, eX1_runTries_10, eX1_runTries_11, eX1_runTries_14, eX1_runTries_17, eX1_runTries_19, eX1_runTries_20, eX1_runTries_23, eX1_runTries_25, eX1_runTries_27, eX1_runTries_28, eX1_runTries_29, eX1_runTries_30, eX1_runTries_33, eX1_runTries_36, eX1_runTries_37, eX1_runTries_38, eX1_runTries_40, eX1_runTries_42, eX1_runTries_45, eX1_runTries_46, eX1_runTries_47, eX1_runTries_49, eX1_runTries_50, eX1_runTries_53, eX1_runTries_55, eX1_runTries_56, eX1_runTries_59, eX1_runTries_60, eX1_runTries_61, eX1_runTries_64, eX1_runTries_67, eX1_runTries_68, Nat.add_zero, Nat.reduceAdd, Nat.reduceLeDiff, Nat.zero_le, and_true, o_aload_0r, o_callV_0, o_callV_1, o_callV_2, o_const_e, o_getf_e, o_goto_e, o_iald_e, o_iald_f, o_icmp_e, o_if_e, o_ii_e, o_iinc_3, o_iload_1, o_iload_2, o_iload_3, o_iload_4, o_iload_5, o_iret_e, o_ist_2, o_ist_3, o_ist_4, o_ist_5, tl_n, tl_s, true_and, xnlv_i, xnlv_n, xnlv_r, xwt_0, xwt_f, xwt_i, xwt_l, xwt_r, h3.cls, h3.g0, h3.g1, h3.g2, h3.g3, h3.g4, h3.g5, h3.g6, h3.g7, h3.g8, h3.g9, h3.g10, h3.g11, nI_add, h3.rl (c := c0 * 8 + d0) (by omega)]
    rw [kj c0 d0 d1 d2]
    cases hb : y.nb c0 d0 with
    | none =>
      simp only [hb] at this
      refine ⟨fun _ => ?_, fun g => absurd (by decide) g⟩
      rw [n1, nI_add]
      exact this _ _ trivial
    | some z =>
      simp only [hb] at this
      have hz := sLat.nb_36 okj hb
      simp only [lkV]
      refine ⟨fun g => absurd g (nI_pos (by omega)), fun _ => ?_⟩
      simp only [eX1_runTries_0, eX1_runTries_1, eX1_runTries_2, eX1_runTries_3, eX1_runTries_5, eX1_runTries_6, eX1_runTries_9, eX1_runTries_10, eX1_runTries_11, eX1_runTries_14, eX1_runTries_17, eX1_runTries_19, eX1_runTries_20, eX1_runTries_23, eX1_runTries_25, eX1_runTries_27, eX1_runTries_28, eX1_runTries_29, eX1_runTries_30, eX1_runTries_33, eX1_runTries_36, eX1_runTries_37, eX1_runTries_38, eX1_runTries_40, eX1_runTries_42, eX1_runTries_45, eX1_runTries_46, eX1_runTries_47, eX1_runTries_49, eX1_runTries_50, eX1_runTries_53, eX1_runTries_55, eX1_runTries_56, eX1_runTries_59, eX1_runTries_60, eX1_runTries_61, eX1_runTries_64, eX1_runTries_67, eX1_runTries_68, Nat.add_zero, Nat.reduceAdd, Nat.reduceLeDiff, Nat.zero_le, and_true, o_aload_0r, o_callV_0, o_callV_1, o_callV_2, o_const_e, o_getf_e, o_goto_e, o_iald_e, o_iald_f, o_icmp_e, o_if_e, o_ii_e, o_iinc_3, o_iload_1, o_iload_2, o_iload_3, o_iload_4, o_iload_5, o_iret_e, o_ist_2, o_ist_3, o_ist_4, o_ist_5, tl_n, tl_s, true_and, xnlv_i, xnlv_n, xnlv_r, xwt_0, xwt_f, xwt_i, xwt_l, xwt_r, h3.cls, h3.g0, h3.g1, h3.g2, h3.g3, h3.g4, h3.g5, h3.g6, h3.g7, h3.g8, h3.g9, h3.g10, h3.g11, h3.rm (c := z) hz]
      refine c_attempt h3 (ok_wse okj) (sim_wse.lk kj) (sim_wse.pr pj) (by rw [n_wse]; exact d1) (okj.1 z) ?_
      rw [latP_latP h.lt]
      simp only [eX1_runTries_0, eX1_runTries_1, eX1_runTries_2, eX1_runTries_3, eX1_runTries_5, eX1_runTries_6, eX1_runTries_9, eX1_runTries_10, eX1_runTries_11, eX1_runTries_14, eX1_runTries_17, eX1_runTries_19, eX1_runTries_20, eX1_runTries_23, eX1_runTries_25, eX1_runTries_27, eX1_runTries_28, eX1_runTries_29, eX1_runTries_30, eX1_runTries_33, eX1_runTries_36, eX1_runTries_37, eX1_runTries_38, eX1_runTries_40, eX1_runTries_42, eX1_runTries_45, eX1_runTries_46, eX1_runTries_47, eX1_runTries_49, eX1_runTries_50, eX1_runTries_53, eX1_runTries_55, eX1_runTries_56, eX1_runTries_59, eX1_runTries_60, eX1_runTries_61, eX1_runTries_64, eX1_runTries_67, eX1_runTries_68, Nat.add_zero, Nat.reduceAdd, Nat.reduceLeDiff, Nat.zero_le, and_true, o_aload_0r, o_callV_0, o_callV_1, o_callV_2, o_const_e, o_getf_e, o_goto_e, o_iald_e, o_iald_f, o_icmp_e, o_if_e, o_ii_e, o_iinc_3, o_iload_1, o_iload_2, o_iload_3, o_iload_4, o_iload_5, o_iret_e, o_ist_2, o_ist_3, o_ist_4, o_ist_5, tl_n, tl_s, true_and, xnlv_i, xnlv_n, xnlv_r, xwt_0, xwt_f, xwt_i, xwt_l, xwt_r, nI_add, n1]
      exact this _ _ trivial
theorem c_runTries (h : LatAt AH b x lk pr) (ok : x.ok) (hk : LkOK x lk) (hp : PrOK x pr) {n : Nat} (hnn : n ≤ 200) {Q : Option Value → xH → Prop} (k : Q (some (.int (nI (x.trN n).2))) (latP AH b (x.trN n).1 lk pr)) : XC MX1_runTries [.ref b, .int (nI n)] AH Q := by
  refine XC.ofR (L := [some (.ref b), some (.int (nI n)), none, none, none, none]) KX1_runTries (by decide +kernel) (by first | decide | exact Nat.le_of_ble_eq_true rfl) rfl ?_
  simp only [eX1_runTries_0, eX1_runTries_1, eX1_runTries_2, eX1_runTries_3, eX1_runTries_5, eX1_runTries_6, eX1_runTries_9, eX1_runTries_10, eX1_runTries_11, eX1_runTries_14, eX1_runTries_17, eX1_runTries_19, eX1_runTries_20, eX1_runTries_23, eX1_runTries_25, eX1_runTries_27, eX1_runTries_28, eX1_runTries_29, eX1_runTries_30, eX1_runTries_33, eX1_runTries_36, eX1_runTries_37, eX1_runTries_38, eX1_runTries_40, eX1_runTries_42, eX1_runTries_45, eX1_runTries_46, eX1_runTries_47, eX1_runTries_49, eX1_runTries_50, eX1_runTries_53, eX1_runTries_55, eX1_runTries_56, eX1_runTries_59, eX1_runTries_60, eX1_runTries_61, eX1_runTries_64, eX1_runTries_67, eX1_runTries_68, Nat.add_zero, Nat.reduceAdd, Nat.reduceLeDiff, Nat.zero_le, and_true, o_aload_0r, o_callV_0, o_callV_1, o_callV_2, o_const_e, o_getf_e, o_goto_e, o_iald_e, o_iald_f, o_icmp_e, o_if_e, o_ii_e, o_iinc_3, o_iload_1, o_iload_2, o_iload_3, o_iload_4, o_iload_5, o_iret_e, o_ist_2, o_ist_3, o_ist_4, o_ist_5, tl_n, tl_s, true_and, xnlv_i, xnlv_n, xnlv_r, xwt_0, xwt_f, xwt_i, xwt_l, xwt_r]
  have := l_runTries h ok hk hp hnn (Q := fun v AH' _ => Q v AH') k n 0 (by omega) none none trivial
  rw [show (x.trN 0).1 = x from rfl, latP_self h] at this
  exact this
end LAT2
