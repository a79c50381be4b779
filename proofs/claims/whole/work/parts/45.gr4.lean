/-! what is told of grains -/
theorem tI_lt {x : sLat} (ok : x.ok) {c : Nat} {m : Nat → Nat} (hm : ∀ g, m g < 2 ^ 36) : ∀ d g, tI x c m d g < 2 ^ 36
  | 0, g => hm g
  | d + 1, g => by
    have ih := tI_lt ok (c := c) hm d
    have hn := sLat.n36 ok
    have hgt := sLat.gT_le (x := x)
    cases hb : x.nb c d with
    | none => simp only [tI, hb]; exact ih g
    | some o =>
      simp only [tI, hb]
      split
      · exact ih g
      · unfold va_up
        split
        · have := gn_lt (sLat.nb_lt ok hb)
          exact Nat.or_lt_two_pow (ih _) (Nat.pow_lt_pow_right (by decide) (by omega))
        · exact ih g
theorem tM_lt {x : sLat} (ok : x.ok) : ∀ c g, tM x c g < 2 ^ 36
  | 0, _ => show 0 < 2 ^ 36 by decide
  | c + 1, g => tI_lt ok (tM_lt ok c) x.nd g
def sLat.ms (x : sLat) (g : Nat) : Nat := tM x x.n g
theorem ms_lt {x : sLat} (ok : x.ok) (g : Nat) : x.ms g < 2 ^ 36 := tM_lt ok _ g
def sLat.nbr (x : sLat) (g : Nat) : Nat := bc (x.ms g) 40
def sLat.isl (x : sLat) : Nat → Nat := sm (fun g => if x.nbr g = 1 then 1 else 0)
def sLat.fgr (x : sLat) : Nat → Nat
  | 0 => 0
  | k + 1 => if x.gS (x.fgr k) < x.gS k then k else x.fgr k
def sLat.cfr (x : sLat) (q : Nat) : Nat → Nat := sm (fun g => if q ≤ x.gS g then 1 else 0)
def sLat.rim (x : sLat) (g : Nat) : Nat → Nat := sm (fun c => if x.gn c = g then x.en c else 0)
def sLat.pnd (x : sLat) (g : Nat) : Nat → Nat := sm (fun c => if x.gn c = g then x.pn c else 0)
def sLat.any (x y : sLat) (g v : Nat) : Nat → Bool
  | 0 => false
  | c + 1 => x.any y g v c || (x.gn c == g && y.mk c == v)
theorem bc_le {x : Nat} (n : Nat) : bc x n ≤ n := by
  have := sm_le (f := fun i => if x.testBit i then 1 else 0) (B := 1) (fun i => by split <;> omega) n
  unfold bc
  omega
theorem sm1_le {P : Nat → Prop} [∀ i, Decidable (P i)] (n : Nat) : sm (fun i => if P i then 1 else 0) n ≤ n := by
  have := sm_le (f := fun i => if P i then 1 else 0) (B := 1) (fun i => by split <;> omega) n
  omega
theorem fgr_le {x : sLat} : ∀ k, x.fgr k ≤ k - 1
  | 0 => Nat.le_refl 0
  | k + 1 => by
    have := fgr_le (x := x) k
    unfold sLat.fgr
    split <;> omega
/-- a grain is no larger than the lattice -/
theorem gS_le {x : sLat} (ok : x.ok) : ∀ c, c ≤ x.n → ∀ g, (fS x c).2.2.2 g ≤ 36
  | 0, _, g => Nat.zero_le _
  | c + 1, hc, g => by
    have ih := gS_le ok c (by omega)
    have hl := (fS_G (x := x) c).1
    rw [fS_s]
    split
    · rename_i h0
      dsimp only
      unfold va_up
      split
      · exact (spO_ok ok 36 0 (sp0_ok ok (by omega) h0)).le
      · exact ih g
    · exact ih g
theorem sLat.gS36 {x : sLat} (ok : x.ok) (g : Nat) : x.gS g ≤ 36 := gS_le ok x.n (Nat.le_refl _) g
section GR4
variable {AH : xH} {g b : Nat} {s : sGra} {x y : sLat} {lk pr : Nat → Int32}
theorem GrOK.gc (h : GrOK x s) (ok : x.ok) {c : Nat} (hc : c < x.n) : s.go c = nI (x.gn c) := by
  have := sLat.n36 ok
  rw [h.1 c (by omega), gn_G hc]
  rfl
/-- Grains.neighbours(q) -/
theorem c_nbr (hg : GraAt AH g s) (hG : GrOK x s) (ok : x.ok) {q : Nat} (hq : q < x.gT) {Q : Option Value → xH → Prop} (k : Q (some (.int (nI (x.nbr q)))) AH) : XC MX0_neighbours [.ref g, .int (nI q)] AH Q := by
  have hn := sLat.n36 ok
  have hgt := sLat.gT_le (x := x)
  have hm := ms_lt ok q
  refine XC.ofR (L := [some (.ref g), some (.int (nI q))]) KX0_neighbours (by decide +kernel) (by first | decide | exact Nat.le_of_ble_eq_true rfl) rfl ?_
  simp only [eX0_neighbours_0, eX0_neighbours_1, eX0_neighbours_4, eX0_neighbours_5, eX0_neighbours_6, eX0_neighbours_9, Nat.add_zero, Nat.reduceAdd, Nat.reduceLeDiff, Nat.zero_le, and_true, o_aload_0r, o_callS_1, o_getf_e, o_iload_1, o_iret_e, o_lald_e, tl_n, tl_s, true_and, xwt_0, xwt_f, xwt_i, xwt_l, xwt_r, hg.cls, hg.g0, hg.g1, hg.g2, hg.g3, hg.g4, hg.g5, hg.r_to (c := q) (by omega), hG.2.2.2.1 q (by omega)]
  refine c_bitCount (x := tM x x.n q) (by show x.ms q < _; omega) ?_
  simp only [eX0_neighbours_0, eX0_neighbours_1, eX0_neighbours_4, eX0_neighbours_5, eX0_neighbours_6, eX0_neighbours_9, Nat.add_zero, Nat.reduceAdd, Nat.reduceLeDiff, Nat.zero_le, and_true, o_aload_0r, o_callS_1, o_getf_e, o_iload_1, o_iret_e, o_lald_e, tl_n, tl_s, true_and, xwt_0, xwt_f, xwt_i, xwt_l, xwt_r]
  exact k
theorem l_isl (hg : GraAt AH g s) (hG : GrOK x s) (ok : x.ok) {Q : xQ} (k : Q (some (.int (nI (x.isl x.gT)))) AH (0, 0)) : ∀ (m j : Nat), j + m = x.gT →
    XR TX0_islands 4 [some (.ref g), some (.int (nI (x.isl j))), some (.int (nI j))] [] AH (0, 0) Q := by
  have hn := sLat.n36 ok
  have hgt := sLat.gT_le (x := x)
  have ett := hG.2.2.2.2
  intro m
  induction m with
  | zero =>
    intro j hj
    rw [eX0_islands_4]
    simp only [eX0_islands_0, eX0_islands_1, eX0_islands_2, eX0_islands_3, eX0_islands_5, eX0_islands_6, eX0_islands_9, eX0_islands_12, eX0_islands_13, eX0_islands_14, eX0_islands_17, eX0_islands_18, eX0_islands_21, eX0_islands_24, eX0_islands_27, eX0_islands_30, eX0_islands_31, Nat.add_zero, Nat.reduceAdd, Nat.reduceLeDiff, Nat.zero_le, and_true, o_aload_0r, o_callV_1, o_const_e, o_getf_e, o_goto_e, o_icmp_e, o_iinc_1, o_iinc_2, o_iload_1, o_iload_2, o_iret_e, o_ist_1, o_ist_2, tl_n, tl_s, true_and, xnlv_i, xnlv_n, xnlv_r, xwt_0, xwt_f, xwt_i, xwt_l, xwt_r, hg.cls, hg.g0, hg.g1, hg.g2, hg.g3, hg.g4, hg.g5, ett, le_nI (a := x.gT) (b := j) (by omega) (by omega)]
    refine ⟨fun _ => ?_, fun g => by omega⟩
    rw [show j = x.gT by omega]
    exact k
  | succ m ih =>
    intro j hj
    have hb := bc_le (x := x.ms j) 40
    have this := ih (j + 1) (by omega)
    rw [show x.isl (j + 1) = x.isl j + (if x.nbr j = 1 then 1 else 0) from rfl] at this
    have hb : x.nbr j ≤ 40 := hb
    rw [eX0_islands_4]
    simp only [eX0_islands_0, eX0_islands_1, eX0_islands_2, eX0_islands_3, eX0_islands_5, eX0_islands_6, eX0_islands_9, eX0_islands_12, eX0_islands_13, eX0_islands_14, eX0_islands_17, eX0_islands_18, eX0_islands_21, eX0_islands_24, eX0_islands_27, eX0_islands_30, eX0_islands_31, Nat.add_zero, Nat.reduceAdd, Nat.reduceLeDiff, Nat.zero_le, and_true, o_aload_0r, o_callV_1, o_const_e, o_getf_e, o_goto_e, o_icmp_e, o_iinc_1, o_iinc_2, o_iload_1, o_iload_2, o_iret_e, o_ist_1, o_ist_2, tl_n, tl_s, true_and, xnlv_i, xnlv_n, xnlv_r, xwt_0, xwt_f, xwt_i, xwt_l, xwt_r, hg.cls, hg.g0, hg.g1, hg.g2, hg.g3, hg.g4, hg.g5, ett, le_nI (a := x.gT) (b := j) (by omega) (by omega)]
    refine ⟨fun g => by omega, fun _ => c_nbr hg hG ok (by omega) ?_⟩
    simp only [eX0_islands_0, eX0_islands_1, eX0_islands_2, eX0_islands_3, eX0_islands_5, eX0_islands_6, eX0_islands_9, eX0_islands_12, eX0_islands_13, eX0_islands_14, eX0_islands_17, eX0_islands_18, eX0_islands_21, eX0_islands_24, eX0_islands_27, eX0_islands_30, eX0_islands_31, Nat.add_zero, Nat.reduceAdd, Nat.reduceLeDiff, Nat.zero_le, and_true, o_aload_0r, o_callV_1, o_const_e, o_getf_e, o_goto_e, o_icmp_e, o_iinc_1, o_iinc_2, o_iload_1, o_iload_2, o_iret_e, o_ist_1, o_ist_2, tl_n, tl_s, true_and, xnlv_i, xnlv_n, xnlv_r, xwt_0, xwt_f, xwt_i, xwt_l, xwt_r, n1, eq_nI (a := x.nbr j) (b := 1) (by omega) (by omega), nI_add]
    refine ⟨fun g1 => ?_, fun g1 => ?_⟩
    · rw [if_neg g1] at this
      exact this
    · rw [if_pos (Classical.not_not.mp g1)] at this
      exact this
/-- Grains.islands() -/
theorem c_isl (hg : GraAt AH g s) (hG : GrOK x s) (ok : x.ok) {Q : Option Value → xH → Prop} (k : Q (some (.int (nI (x.isl x.gT)))) AH) : XC MX0_islands [.ref g] AH Q := by
  refine XC.ofR (L := [some (.ref g), none, none]) KX0_islands (by decide +kernel) (by first | decide | exact Nat.le_of_ble_eq_true rfl) rfl ?_
  simp only [eX0_islands_0, eX0_islands_1, eX0_islands_2, eX0_islands_3, eX0_islands_5, eX0_islands_6, eX0_islands_9, eX0_islands_12, eX0_islands_13, eX0_islands_14, eX0_islands_17, eX0_islands_18, eX0_islands_21, eX0_islands_24, eX0_islands_27, eX0_islands_30, eX0_islands_31, Nat.add_zero, Nat.reduceAdd, Nat.reduceLeDiff, Nat.zero_le, and_true, o_aload_0r, o_callV_1, o_const_e, o_getf_e, o_goto_e, o_icmp_e, o_iinc_1, o_iinc_2, o_iload_1, o_iload_2, o_iret_e, o_ist_1, o_ist_2, tl_n, tl_s, true_and, xnlv_i, xnlv_n, xnlv_r, xwt_0, xwt_f, xwt_i, xwt_l, xwt_r]
  exact l_isl hg hG ok k x.gT 0 (by omega)
theorem gT_pos {x : sLat} (ok : x.ok) : 0 < x.gT := by
  have := gn_lt (x := x) (c := 0) (by have := sLat.n4 ok; omega)
  omega
theorem l_fgr (hg : GraAt AH g s) (hG : GrOK x s) (ok : x.ok) {Q : xQ} (k : Q (some (.int (nI (x.fgr x.gT)))) AH (0, 0)) : ∀ (m j : Nat), 0 < j → j + m = x.gT →
    XR TX0_firstGreatest 4 [some (.ref g), some (.int (nI (x.fgr j))), some (.int (nI j))] [] AH (0, 0) Q := by
  have hn := sLat.n36 ok
  have hgt := sLat.gT_le (x := x)
  have ett := hG.2.2.2.2
  intro m
  induction m with
  | zero =>
    intro j h0 hj
    rw [eX0_firstGreatest_4]
    simp only [eX0_firstGreatest_0, eX0_firstGreatest_1, eX0_firstGreatest_2, eX0_firstGreatest_3, eX0_firstGreatest_5, eX0_firstGreatest_6, eX0_firstGreatest_9, eX0_firstGreatest_12, eX0_firstGreatest_13, eX0_firstGreatest_16, eX0_firstGreatest_17, eX0_firstGreatest_18, eX0_firstGreatest_19, eX0_firstGreatest_22, eX0_firstGreatest_23, eX0_firstGreatest_24, eX0_firstGreatest_27, eX0_firstGreatest_28, eX0_firstGreatest_29, eX0_firstGreatest_32, eX0_firstGreatest_35, eX0_firstGreatest_36, o_aload_0r, o_const_e, o_getf_e, o_goto_e, o_iald_e, o_iald_f, o_icmp_e, o_iinc_2, o_iload_1, o_iload_2, o_iret_e, o_ist_1, o_ist_2, true_and, xnlv_i, xnlv_n, xnlv_r, hg.cls, hg.g0, hg.g1, hg.g2, hg.g3, hg.g4, hg.g5, ett, le_nI (a := x.gT) (b := j) (by omega) (by omega)]
    refine ⟨fun _ => ?_, fun g => by omega⟩
    rw [show j = x.gT by omega]
    exact k
  | succ m ih =>
    intro j h0 hj
    have hf := fgr_le (x := x) j
    have this := ih (j + 1) (by omega) (by omega)
    rw [show x.fgr (j + 1) = if x.gS (x.fgr j) < x.gS j then j else x.fgr j from rfl] at this
    have e1 := hG.2.2.1 j (by omega)
    have e2 := hG.2.2.1 (x.fgr j) (by omega)
    have s1 := sLat.gS36 ok j
    have s2 := sLat.gS36 ok (x.fgr j)
    rw [eX0_firstGreatest_4]
    simp only [eX0_firstGreatest_0, eX0_firstGreatest_1, eX0_firstGreatest_2, eX0_firstGreatest_3, eX0_firstGreatest_5, eX0_firstGreatest_6, eX0_firstGreatest_9, eX0_firstGreatest_12, eX0_firstGreatest_13, eX0_firstGreatest_16, eX0_firstGreatest_17, eX0_firstGreatest_18, eX0_firstGreatest_19, eX0_firstGreatest_22, eX0_firstGreatest_23, eX0_firstGreatest_24, eX0_firstGreatest_27, eX0_firstGreatest_28, eX0_firstGreatest_29, eX0_firstGreatest_32, eX0_firstGreatest_35, eX0_firstGreatest_36, o_aload_0r, o_const_e, o_getf_e, o_goto_e, o_iald_e, o_iald_f, o_icmp_e, o_iinc_2, o_iload_1, o_iload_2, o_iret_e, o_ist_1, o_ist_2, true_and, xnlv_i, xnlv_n, xnlv_r, hg.cls, hg.g0, hg.g1, hg.g2, hg.g3, hg.g4, hg.g5, ett, le_nI (a := x.gT) (b := j) (by omega) (by omega), hg.r_sz (c := j) (by omega), hg.r_sz (c := x.fgr j) (by omega), e1, e2, le_nI (a := x.gS j) (b := x.gS (x.fgr j)) (by omega) (by omega), n1, nI_add]
    refine ⟨fun g => by omega, fun _ => ⟨fun g1 => ?_, fun g1 => ?_⟩⟩
    · rw [if_neg (by omega)] at this
      exact this
    · rw [if_pos (by omega)] at this
      exact this
/-- Grains.firstGreatest() -/
theorem c_fgr (hg : GraAt AH g s) (hG : GrOK x s) (ok : x.ok) {Q : Option Value → xH → Prop} (k : Q (some (.int (nI (x.fgr x.gT)))) AH) : XC MX0_firstGreatest [.ref g] AH Q := by
  have h0 := gT_pos ok
  refine XC.ofR (L := [some (.ref g), none, none]) KX0_firstGreatest (by decide +kernel) (by first | decide | exact Nat.le_of_ble_eq_true rfl) rfl ?_
  simp only [eX0_firstGreatest_0, eX0_firstGreatest_1, eX0_firstGreatest_2, eX0_firstGreatest_3, eX0_firstGreatest_5, eX0_firstGreatest_6, eX0_firstGreatest_9, eX0_firstGreatest_12, eX0_firstGreatest_13, eX0_firstGreatest_16, eX0_firstGreatest_17, eX0_firstGreatest_18, eX0_firstGreatest_19, eX0_firstGreatest_22, eX0_firstGreatest_23, eX0_firstGreatest_24, eX0_firstGreatest_27, eX0_firstGreatest_28, eX0_firstGreatest_29, eX0_firstGreatest_32, eX0_firstGreatest_35, eX0_firstGreatest_36, o_aload_0r, o_const_e, o_getf_e, o_goto_e, o_iald_e, o_iald_f, o_icmp_e, o_iinc_2, o_iload_1, o_iload_2, o_iret_e, o_ist_1, o_ist_2, true_and, xnlv_i, xnlv_n, xnlv_r]
  have := l_fgr hg hG ok (Q := fun v AH' _ => Q v AH') k (x.gT - 1) 1 (by omega) (by omega)
  rw [show x.fgr 1 = 0 by show (if _ then 0 else 0) = 0; split <;> rfl] at this
  exact this
/-- Grains.greatestSize() -/
theorem c_grS (hg : GraAt AH g s) (hG : GrOK x s) (ok : x.ok) {Q : Option Value → xH → Prop} (k : Q (some (.int (nI (x.gS (x.fgr x.gT))))) AH) : XC MX0_greatestSize [.ref g] AH Q := by
  have h0 := gT_pos ok
  have hn := sLat.n36 ok
  have hgt := sLat.gT_le (x := x)
  have hf := fgr_le (x := x) x.gT
  have e2 := hG.2.2.1 (x.fgr x.gT) (by omega)
  refine XC.ofR (L := [some (.ref g)]) KX0_greatestSize (by decide +kernel) (by first | decide | exact Nat.le_of_ble_eq_true rfl) rfl ?_
  simp only [eX0_greatestSize_0, eX0_greatestSize_1, eX0_greatestSize_4, eX0_greatestSize_5, eX0_greatestSize_8, eX0_greatestSize_9, Nat.add_zero, Nat.reduceAdd, Nat.reduceLeDiff, Nat.zero_le, and_true, o_aload_0r, o_callV_0, o_getf_e, o_iald_e, o_iald_f, o_iret_e, tl_n, tl_s, true_and, xwt_0, xwt_f, xwt_i, xwt_l, xwt_r, hg.cls, hg.g0, hg.g1, hg.g2, hg.g3, hg.g4, hg.g5]
  refine c_fgr hg hG ok ?_
  simp only [eX0_greatestSize_0, eX0_greatestSize_1, eX0_greatestSize_4, eX0_greatestSize_5, eX0_greatestSize_8, eX0_greatestSize_9, Nat.add_zero, Nat.reduceAdd, Nat.reduceLeDiff, Nat.zero_le, and_true, o_aload_0r, o_callV_0, o_getf_e, o_iald_e, o_iald_f, o_iret_e, tl_n, tl_s, true_and, xwt_0, xwt_f, xwt_i, xwt_l, xwt_r, hg.r_sz (c := x.fgr x.gT) (by omega), e2]
  exact k
theorem l_cfr (hg : GraAt AH g s) (hG : GrOK x s) (ok : x.ok) {q : Nat} (hq : q ≤ 36) {Q : xQ} (k : Q (some (.int (nI (x.cfr q x.gT)))) AH (0, 0)) : ∀ (m j : Nat), j + m = x.gT →
    XR TX0_countFrom 4 [some (.ref g), some (.int (nI q)), some (.int (nI (x.cfr q j))), some (.int (nI j))] [] AH (0, 0) Q := by
  have hn := sLat.n36 ok
  have hgt := sLat.gT_le (x := x)
  have ett := hG.2.2.2.2
  intro m
  induction m with
  | zero =>
    intro j hj
    rw [eX0_countFrom_4]
    simp only [eX0_countFrom_0, eX0_countFrom_1, eX0_countFrom_2, eX0_countFrom_3, eX0_countFrom_5, eX0_countFrom_6, eX0_countFrom_9, eX0_countFrom_12, eX0_countFrom_13, eX0_countFrom_16, eX0_countFrom_17, eX0_countFrom_18, eX0_countFrom_19, eX0_countFrom_22, eX0_countFrom_25, eX0_countFrom_28, eX0_countFrom_31, eX0_countFrom_32, o_aload_0r, o_const_e, o_getf_e, o_goto_e, o_iald_e, o_iald_f, o_icmp_e, o_iinc_2, o_iinc_3, o_iload_1, o_iload_2, o_iload_3, o_iret_e, o_ist_2, o_ist_3, true_and, xnlv_i, xnlv_n, xnlv_r, hg.cls, hg.g0, hg.g1, hg.g2, hg.g3, hg.g4, hg.g5, ett, le_nI (a := x.gT) (b := j) (by omega) (by omega)]
    refine ⟨fun _ => ?_, fun g => by omega⟩
    rw [show j = x.gT by omega]
    exact k
  | succ m ih =>
    intro j hj
    have this := ih (j + 1) (by omega)
    rw [show x.cfr q (j + 1) = x.cfr q j + (if q ≤ x.gS j then 1 else 0) from rfl] at this
    have e1 := hG.2.2.1 j (by omega)
    have s1 := sLat.gS36 ok j
    rw [eX0_countFrom_4]
    simp only [eX0_countFrom_0, eX0_countFrom_1, eX0_countFrom_2, eX0_countFrom_3, eX0_countFrom_5, eX0_countFrom_6, eX0_countFrom_9, eX0_countFrom_12, eX0_countFrom_13, eX0_countFrom_16, eX0_countFrom_17, eX0_countFrom_18, eX0_countFrom_19, eX0_countFrom_22, eX0_countFrom_25, eX0_countFrom_28, eX0_countFrom_31, eX0_countFrom_32, o_aload_0r, o_const_e, o_getf_e, o_goto_e, o_iald_e, o_iald_f, o_icmp_e, o_iinc_2, o_iinc_3, o_iload_1, o_iload_2, o_iload_3, o_iret_e, o_ist_2, o_ist_3, true_and, xnlv_i, xnlv_n, xnlv_r, hg.cls, hg.g0, hg.g1, hg.g2, hg.g3, hg.g4, hg.g5, ett, le_nI (a := x.gT) (b := j) (by omega) (by omega), hg.r_sz (c := j) (by omega), e1, lt_nI (a := x.gS j) (b := q) (by omega) (by omega), n1, nI_add]
    refine ⟨fun g => by omega, fun _ => ⟨fun g1 => ?_, fun g1 => ?_⟩⟩
    · rw [if_neg (by omega)] at this
      exact this
    · rw [if_pos (by omega)] at this
      exact this
/-- Grains.countFrom(q) -/
theorem c_cfr (hg : GraAt AH g s) (hG : GrOK x s) (ok : x.ok) {q : Nat} (hq : q ≤ 36) {Q : Option Value → xH → Prop} (k : Q (some (.int (nI (x.cfr q x.gT)))) AH) : XC MX0_countFrom [.ref g, .int (nI q)] AH Q := by
  refine XC.ofR (L := [some (.ref g), some (.int (nI q)), none, none]) KX0_countFrom (by decide +kernel) (by first | decide | exact Nat.le_of_ble_eq_true rfl) rfl ?_
  simp only [eX0_countFrom_0, eX0_countFrom_1, eX0_countFrom_2, eX0_countFrom_3, eX0_countFrom_5, eX0_countFrom_6, eX0_countFrom_9, eX0_countFrom_12, eX0_countFrom_13, eX0_countFrom_16, eX0_countFrom_17, eX0_countFrom_18, eX0_countFrom_19, eX0_countFrom_22, eX0_countFrom_25, eX0_countFrom_28, eX0_countFrom_31, eX0_countFrom_32, o_aload_0r, o_const_e, o_getf_e, o_goto_e, o_iald_e, o_iald_f, o_icmp_e, o_iinc_2, o_iinc_3, o_iload_1, o_iload_2, o_iload_3, o_iret_e, o_ist_2, o_ist_3, true_and, xnlv_i, xnlv_n, xnlv_r]
  exact l_cfr hg hG ok hq k x.gT 0 (by omega)
theorem l_rim (hg : GraAt AH g s) (hG : GrOK x s) (hl : LatAt AH b x lk pr) (ok : x.ok) (hk : LkOK x lk) (hp : PrOK x pr) {q : Nat} (hq : q < x.gT) {Q : xQ} (k : Q (some (.int (nI (x.rim q x.n)))) AH (0, 0)) : ∀ (m j : Nat), j + m = x.n →
    XR TX0_rim 5 [some (.ref g), some (.ref b), some (.int (nI q)), some (.int (nI (x.rim q j))), some (.int (nI j))] [] AH (0, 0) Q := by
  have hn := sLat.n36 ok
  have hgt := sLat.gT_le (x := x)
  intro m
  induction m with
  | zero =>
    intro j hj
    rw [eX0_rim_5]
    simp only [eX0_rim_0, eX0_rim_1, eX0_rim_2, eX0_rim_3, eX0_rim_7, eX0_rim_8, eX0_rim_11, eX0_rim_14, eX0_rim_15, eX0_rim_18, eX0_rim_20, eX0_rim_21, eX0_rim_22, eX0_rim_25, eX0_rim_26, eX0_rim_27, eX0_rim_29, eX0_rim_32, eX0_rim_33, eX0_rim_34, eX0_rim_37, eX0_rim_40, eX0_rim_41, Nat.add_zero, Nat.reduceAdd, Nat.reduceLeDiff, Nat.zero_le, and_true, o_aload_0r, o_aload_1r, o_callV_0, o_callV_1, o_const_e, o_getf_e, o_goto_e, o_iald_e, o_iald_f, o_icmp_e, o_ii_e, o_iinc_4, o_iload_2, o_iload_3, o_iload_4, o_iret_e, o_ist_3, o_ist_4, tl_n, tl_s, true_and, xnlv_i, xnlv_n, xnlv_r, xwt_0, xwt_f, xwt_i, xwt_l, xwt_r, hl.cls, hl.g0, hl.g1, hl.g2, hl.g3, hl.g4, hl.g5, hl.g6, hl.g7, hl.g8, hl.g9, hl.g10, hl.g11]
    refine c_cells hl ?_
    simp only [eX0_rim_0, eX0_rim_1, eX0_rim_2, eX0_rim_3, eX0_rim_7, eX0_rim_8, eX0_rim_11, eX0_rim_14, eX0_rim_15, eX0_rim_18, eX0_rim_20, eX0_rim_21, eX0_rim_22, eX0_rim_25, eX0_rim_26, eX0_rim_27, eX0_rim_29, eX0_rim_32, eX0_rim_33, eX0_rim_34, eX0_rim_37, eX0_rim_40, eX0_rim_41, Nat.add_zero, Nat.reduceAdd, Nat.reduceLeDiff, Nat.zero_le, and_true, o_aload_0r, o_aload_1r, o_callV_0, o_callV_1, o_const_e, o_getf_e, o_goto_e, o_iald_e, o_iald_f, o_icmp_e, o_ii_e, o_iinc_4, o_iload_2, o_iload_3, o_iload_4, o_iret_e, o_ist_3, o_ist_4, tl_n, tl_s, true_and, xnlv_i, xnlv_n, xnlv_r, xwt_0, xwt_f, xwt_i, xwt_l, xwt_r, le_nI (a := x.n) (b := j) (by omega) (by omega)]
    refine ⟨fun _ => ?_, fun g => by omega⟩
    rw [show j = x.n by omega]
    exact k
  | succ m ih =>
    intro j hj
    have this := ih (j + 1) (by omega)
    rw [show x.rim q (j + 1) = x.rim q j + (if x.gn j = q then x.en j else 0) from rfl] at this
    have e1 := hG.gc ok (c := j) (by omega)
    have s1 := gn_lt (x := x) (c := j) (by omega)
    rw [eX0_rim_5]
    simp only [eX0_rim_0, eX0_rim_1, eX0_rim_2, eX0_rim_3, eX0_rim_7, eX0_rim_8, eX0_rim_11, eX0_rim_14, eX0_rim_15, eX0_rim_18, eX0_rim_20, eX0_rim_21, eX0_rim_22, eX0_rim_25, eX0_rim_26, eX0_rim_27, eX0_rim_29, eX0_rim_32, eX0_rim_33, eX0_rim_34, eX0_rim_37, eX0_rim_40, eX0_rim_41, Nat.add_zero, Nat.reduceAdd, Nat.reduceLeDiff, Nat.zero_le, and_true, o_aload_0r, o_aload_1r, o_callV_0, o_callV_1, o_const_e, o_getf_e, o_goto_e, o_iald_e, o_iald_f, o_icmp_e, o_ii_e, o_iinc_4, o_iload_2, o_iload_3, o_iload_4, o_iret_e, o_ist_3, o_ist_4, tl_n, tl_s, true_and, xnlv_i, xnlv_n, xnlv_r, xwt_0, xwt_f, xwt_i, xwt_l, xwt_r, hl.cls, hl.g0, hl.g1, hl.g2, hl.g3, hl.g4, hl.g5, hl.g6, hl.g7, hl.g8, hl.g9, hl.g10, hl.g11]
    refine c_cells hl ?_
    simp only [eX0_rim_0, eX0_rim_1, eX0_rim_2, eX0_rim_3, eX0_rim_7, eX0_rim_8, eX0_rim_11, eX0_rim_14, eX0_rim_15, eX0_rim_18, eX0_rim_20, eX0_rim_21, eX0_rim_22, eX0_rim_25, eX0_rim_26, eX0_rim_27, eX0_rim_29, eX0_rim_32, eX0_rim_33, eX0_rim_34, eX0_rim_37, eX0_rim_40, eX0_rim_41, Nat.add_zero, Nat.reduceAdd, Nat.reduceLeDiff, Nat.zero_le, and_true, o_aload_0r, o_aload_1r, o_callV_0, o_callV_1, o_const_e, o_getf_e, o_goto_e, o_iald_e, o_iald_f, o_icmp_e, o_ii_e, o_iinc_4, o_iload_2, o_iload_3, o_iload_4, o_iret_e, o_ist_3, o_ist_4, tl_n, tl_s, true_and, xnlv_i, xnlv_n, xnlv_r, xwt_0, xwt_f, xwt_i, xwt_l, xwt_r, le_nI (a := x.n) (b := j) (by omega) (by omega), hg.cls, hg.g0, hg.g1, hg.g2, hg.g3, hg.g4, hg.g5, hl.cls, hl.g0, hl.g1, hl.g2, hl.g3, hl.g4, hl.g5, hl.g6, hl.g7, hl.g8, hl.g9, hl.g10, hl.g11, hg.r_go (c := j) (by omega), e1, eq_nI (a := x.gn j) (b := q) (by omega) (by omega), n1, nI_add]
    refine ⟨fun g => by omega, fun _ => ⟨fun g1 => ?_, fun g1 => ?_⟩⟩
    · rw [if_neg g1] at this
      exact this
    · rw [if_pos (Classical.not_not.mp g1)] at this
      refine c_energyOf hl ok hk hp (by omega) ?_
      simp only [eX0_rim_0, eX0_rim_1, eX0_rim_2, eX0_rim_3, eX0_rim_7, eX0_rim_8, eX0_rim_11, eX0_rim_14, eX0_rim_15, eX0_rim_18, eX0_rim_20, eX0_rim_21, eX0_rim_22, eX0_rim_25, eX0_rim_26, eX0_rim_27, eX0_rim_29, eX0_rim_32, eX0_rim_33, eX0_rim_34, eX0_rim_37, eX0_rim_40, eX0_rim_41, Nat.add_zero, Nat.reduceAdd, Nat.reduceLeDiff, Nat.zero_le, and_true, o_aload_0r, o_aload_1r, o_callV_0, o_callV_1, o_const_e, o_getf_e, o_goto_e, o_iald_e, o_iald_f, o_icmp_e, o_ii_e, o_iinc_4, o_iload_2, o_iload_3, o_iload_4, o_iret_e, o_ist_3, o_ist_4, tl_n, tl_s, true_and, xnlv_i, xnlv_n, xnlv_r, xwt_0, xwt_f, xwt_i, xwt_l, xwt_r, n1, nI_add]
      exact this
/-- Grains.rim(lattice, q) -/
theorem c_rim (hg : GraAt AH g s) (hG : GrOK x s) (hl : LatAt AH b x lk pr) (ok : x.ok) (hk : LkOK x lk) (hp : PrOK x pr) {q : Nat} (hq : q < x.gT) {Q : Option Value → xH → Prop} (k : Q (some (.int (nI (x.rim q x.n)))) AH) : XC MX0_rim [.ref g, .ref b, .int (nI q)] AH Q := by
  refine XC.ofR (L := [some (.ref g), some (.ref b), some (.int (nI q)), none, none]) KX0_rim (by decide +kernel) (by first | decide | exact Nat.le_of_ble_eq_true rfl) rfl ?_
  simp only [eX0_rim_0, eX0_rim_1, eX0_rim_2, eX0_rim_3, eX0_rim_7, eX0_rim_8, eX0_rim_11, eX0_rim_14, eX0_rim_15, eX0_rim_18, eX0_rim_20, eX0_rim_21, eX0_rim_22, eX0_rim_25, eX0_rim_26, eX0_rim_27, eX0_rim_29, eX0_rim_32, eX0_rim_33, eX0_rim_34, eX0_rim_37, eX0_rim_40, eX0_rim_41, Nat.add_zero, Nat.reduceAdd, Nat.reduceLeDiff, Nat.zero_le, and_true, o_aload_0r, o_aload_1r, o_callV_0, o_callV_1, o_const_e, o_getf_e, o_goto_e, o_iald_e, o_iald_f, o_icmp_e, o_ii_e, o_iinc_4, o_iload_2, o_iload_3, o_iload_4, o_iret_e, o_ist_3, o_ist_4, tl_n, tl_s, true_and, xnlv_i, xnlv_n, xnlv_r, xwt_0, xwt_f, xwt_i, xwt_l, xwt_r]
  exact l_rim hg hG hl ok hk hp hq k x.n 0 (by omega)
theorem l_pnd (hg : GraAt AH g s) (hG : GrOK x s) (hl : LatAt AH b x lk pr) (ok : x.ok) {q : Nat} (hq : q < x.gT) {Q : xQ} (k : Q (some (.int (nI (x.pnd q x.n)))) AH (0, 0)) : ∀ (m j : Nat), j + m = x.n →
    XR TX0_pinned 5 [some (.ref g), some (.ref b), some (.int (nI q)), some (.int (nI (x.pnd q j))), some (.int (nI j))] [] AH (0, 0) Q := by
  have hn := sLat.n36 ok
  have hgt := sLat.gT_le (x := x)
  intro m
  induction m with
  | zero =>
    intro j hj
    rw [eX0_pinned_5]
    simp only [eX0_pinned_0, eX0_pinned_1, eX0_pinned_2, eX0_pinned_3, eX0_pinned_7, eX0_pinned_8, eX0_pinned_11, eX0_pinned_14, eX0_pinned_15, eX0_pinned_18, eX0_pinned_20, eX0_pinned_21, eX0_pinned_22, eX0_pinned_25, eX0_pinned_26, eX0_pinned_27, eX0_pinned_30, eX0_pinned_32, eX0_pinned_33, eX0_pinned_34, eX0_pinned_35, eX0_pinned_38, eX0_pinned_41, eX0_pinned_42, Nat.add_zero, Nat.reduceAdd, Nat.reduceLeDiff, Nat.zero_le, and_true, o_aload_0r, o_aload_1r, o_callV_0, o_const_e, o_getf_e, o_goto_e, o_iald_e, o_iald_f, o_icmp_e, o_ii_e, o_iinc_4, o_iload_2, o_iload_3, o_iload_4, o_iret_e, o_ist_3, o_ist_4, tl_n, tl_s, true_and, xnlv_i, xnlv_n, xnlv_r, xwt_0, xwt_f, xwt_i, xwt_l, xwt_r, hl.cls, hl.g0, hl.g1, hl.g2, hl.g3, hl.g4, hl.g5, hl.g6, hl.g7, hl.g8, hl.g9, hl.g10, hl.g11]
    refine c_cells hl ?_
    simp only [eX0_pinned_0, eX0_pinned_1, eX0_pinned_2, eX0_pinned_3, eX0_pinned_7, eX0_pinned_8, eX0_pinned_11, eX0_pinned_14, eX0_pinned_15, eX0_pinned_18, eX0_pinned_20, eX0_pinned_21, eX0_pinned_22, eX0_pinned_25, eX0_pinned_26, eX0_pinned_27, eX0_pinned_30, eX0_pinned_32, eX0_pinned_33, eX0_pinned_34, eX0_pinned_35, eX0_pinned_38, eX0_pinned_41, eX0_pinned_42, Nat.add_zero, Nat.reduceAdd, Nat.reduceLeDiff, Nat.zero_le, and_true, o_aload_0r, o_aload_1r, o_callV_0, o_const_e, o_getf_e, o_goto_e, o_iald_e, o_iald_f, o_icmp_e, o_ii_e, o_iinc_4, o_iload_2, o_iload_3, o_iload_4, o_iret_e, o_ist_3, o_ist_4, tl_n, tl_s, true_and, xnlv_i, xnlv_n, xnlv_r, xwt_0, xwt_f, xwt_i, xwt_l, xwt_r, le_nI (a := x.n) (b := j) (by omega) (by omega)]
    refine ⟨fun _ => ?_, fun g => by omega⟩
    rw [show j = x.n by omega]
    exact k
  | succ m ih =>
    intro j hj
    have this := ih (j + 1) (by omega)
    rw [show x.pnd q (j + 1) = x.pnd q j + (if x.gn j = q then x.pn j else 0) from rfl] at this
    have e1 := hG.gc ok (c := j) (by omega)
    have s1 := gn_lt (x := x) (c := j) (by omega)
    rw [eX0_pinned_5]
    simp only [eX0_pinned_0, eX0_pinned_1, eX0_pinned_2, eX0_pinned_3, eX0_pinned_7, eX0_pinned_8, eX0_pinned_11, eX0_pinned_14, eX0_pinned_15, eX0_pinned_18, eX0_pinned_20, eX0_pinned_21, eX0_pinned_22, eX0_pinned_25, eX0_pinned_26, eX0_pinned_27, eX0_pinned_30, eX0_pinned_32, eX0_pinned_33, eX0_pinned_34, eX0_pinned_35, eX0_pinned_38, eX0_pinned_41, eX0_pinned_42, Nat.add_zero, Nat.reduceAdd, Nat.reduceLeDiff, Nat.zero_le, and_true, o_aload_0r, o_aload_1r, o_callV_0, o_const_e, o_getf_e, o_goto_e, o_iald_e, o_iald_f, o_icmp_e, o_ii_e, o_iinc_4, o_iload_2, o_iload_3, o_iload_4, o_iret_e, o_ist_3, o_ist_4, tl_n, tl_s, true_and, xnlv_i, xnlv_n, xnlv_r, xwt_0, xwt_f, xwt_i, xwt_l, xwt_r, hl.cls, hl.g0, hl.g1, hl.g2, hl.g3, hl.g4, hl.g5, hl.g6, hl.g7, hl.g8, hl.g9, hl.g10, hl.g11]
    refine c_cells hl ?_
    simp only [eX0_pinned_0, eX0_pinned_1, eX0_pinned_2, eX0_pinned_3, eX0_pinned_7, eX0_pinned_8, eX0_pinned_11, eX0_pinned_14, eX0_pinned_15, eX0_pinned_18, eX0_pinned_20, eX0_pinned_21, eX0_pinned_22, eX0_pinned_25, eX0_pinned_26, eX0_pinned_27, eX0_pinned_30, eX0_pinned_32, eX0_pinned_33, eX0_pinned_34, eX0_pinned_35, eX0_pinned_38, eX0_pinned_41, eX0_pinned_42, Nat.add_zero, Nat.reduceAdd, Nat.reduceLeDiff, Nat.zero_le, and_true, o_aload_0r, o_aload_1r, o_callV_0, o_const_e, o_getf_e, o_goto_e, o_iald_e, o_iald_f, o_icmp_e, o_ii_e, o_iinc_4, o_iload_2, o_iload_3, o_iload_4, o_iret_e, o_ist_3, o_ist_4, tl_n, tl_s, true_and, xnlv_i, xnlv_n, xnlv_r, xwt_0, xwt_f, xwt_i, xwt_l, xwt_r, le_nI (a := x.n) (b := j) (by omega) (by omega), hg.cls, hg.g0, hg.g1, hg.g2, hg.g3, hg.g4, hg.g5, hl.cls, hl.g0, hl.g1, hl.g2, hl.g3, hl.g4, hl.g5, hl.g6, hl.g7, hl.g8, hl.g9, hl.g10, hl.g11, hg.r_go (c := j) (by omega), e1, eq_nI (a := x.gn j) (b := q) (by omega) (by omega), n1, nI_add, hl.rp (c := j) (by omega)]
    refine ⟨fun g => by omega, fun _ => ⟨fun g1 => ?_, fun g1 => ?_⟩⟩
    · rw [if_neg g1] at this
      exact this
    · rw [if_pos (Classical.not_not.mp g1)] at this
      exact this
/-- Grains.pinned(lattice, q) -/
theorem c_pnd (hg : GraAt AH g s) (hG : GrOK x s) (hl : LatAt AH b x lk pr) (ok : x.ok) {q : Nat} (hq : q < x.gT) {Q : Option Value → xH → Prop} (k : Q (some (.int (nI (x.pnd q x.n)))) AH) : XC MX0_pinned [.ref g, .ref b, .int (nI q)] AH Q := by
  refine XC.ofR (L := [some (.ref g), some (.ref b), some (.int (nI q)), none, none]) KX0_pinned (by decide +kernel) (by first | decide | exact Nat.le_of_ble_eq_true rfl) rfl ?_
  simp only [eX0_pinned_0, eX0_pinned_1, eX0_pinned_2, eX0_pinned_3, eX0_pinned_7, eX0_pinned_8, eX0_pinned_11, eX0_pinned_14, eX0_pinned_15, eX0_pinned_18, eX0_pinned_20, eX0_pinned_21, eX0_pinned_22, eX0_pinned_25, eX0_pinned_26, eX0_pinned_27, eX0_pinned_30, eX0_pinned_32, eX0_pinned_33, eX0_pinned_34, eX0_pinned_35, eX0_pinned_38, eX0_pinned_41, eX0_pinned_42, Nat.add_zero, Nat.reduceAdd, Nat.reduceLeDiff, Nat.zero_le, and_true, o_aload_0r, o_aload_1r, o_callV_0, o_const_e, o_getf_e, o_goto_e, o_iald_e, o_iald_f, o_icmp_e, o_ii_e, o_iinc_4, o_iload_2, o_iload_3, o_iload_4, o_iret_e, o_ist_3, o_ist_4, tl_n, tl_s, true_and, xnlv_i, xnlv_n, xnlv_r, xwt_0, xwt_f, xwt_i, xwt_l, xwt_r]
  exact l_pnd hg hG hl ok hq k x.n 0 (by omega)
theorem any_T {x y : sLat} {q v : Nat} : ∀ (m j : Nat), x.any y q v j = true → x.any y q v (j + m) = true
  | 0, _, h => h
  | m + 1, j, h => by
    show (x.any y q v (j + m) || _) = true
    rw [any_T m j h, Bool.true_or]
theorem l_any (hg : GraAt AH g s) (hG : GrOK x s) (hl : LatAt AH b y lk pr) (ok : x.ok) (oy : y.ok) (en : y.n = x.n) {q v : Nat} (hq : q < x.gT) (hv : v < 8) {Q : xQ} (k : Q (some (.int (if x.any y q v x.n = true then 1 else 0))) AH (0, 0)) : ∀ (m j : Nat), j + m = x.n → x.any y q v j = false →
    XR TX0_anyHas 3 [some (.ref g), some (.ref b), some (.int (nI q)), some (.int (nI v)), some (.int (nI j))] [] AH (0, 0) Q := by
  have hn := sLat.n36 ok
  have hgt := sLat.gT_le (x := x)
  intro m
  induction m with
  | zero =>
    intro j hj ha
    rw [eX0_anyHas_3]
    simp only [eX0_anyHas_0, eX0_anyHas_1, eX0_anyHas_5, eX0_anyHas_6, eX0_anyHas_9, eX0_anyHas_12, eX0_anyHas_13, eX0_anyHas_16, eX0_anyHas_18, eX0_anyHas_19, eX0_anyHas_20, eX0_anyHas_23, eX0_anyHas_24, eX0_anyHas_27, eX0_anyHas_29, eX0_anyHas_30, eX0_anyHas_31, eX0_anyHas_34, eX0_anyHas_35, eX0_anyHas_36, eX0_anyHas_39, eX0_anyHas_42, eX0_anyHas_43, Nat.add_zero, Nat.reduceAdd, Nat.reduceLeDiff, Nat.zero_le, and_true, o_aload_0r, o_aload_1r, o_callV_0, o_const_e, o_getf_e, o_goto_e, o_iald_e, o_iald_f, o_icmp_e, o_iinc_4, o_iload_2, o_iload_3, o_iload_4, o_ist_4, o_zret_0, o_zret_1, tl_n, tl_s, true_and, xnlv_i, xnlv_n, xnlv_r, xwt_0, xwt_f, xwt_i, xwt_l, xwt_r, hl.cls, hl.g0, hl.g1, hl.g2, hl.g3, hl.g4, hl.g5, hl.g6, hl.g7, hl.g8, hl.g9, hl.g10, hl.g11]
    refine c_cells hl ?_
    rw [en]
    simp only [eX0_anyHas_0, eX0_anyHas_1, eX0_anyHas_5, eX0_anyHas_6, eX0_anyHas_9, eX0_anyHas_12, eX0_anyHas_13, eX0_anyHas_16, eX0_anyHas_18, eX0_anyHas_19, eX0_anyHas_20, eX0_anyHas_23, eX0_anyHas_24, eX0_anyHas_27, eX0_anyHas_29, eX0_anyHas_30, eX0_anyHas_31, eX0_anyHas_34, eX0_anyHas_35, eX0_anyHas_36, eX0_anyHas_39, eX0_anyHas_42, eX0_anyHas_43, Nat.add_zero, Nat.reduceAdd, Nat.reduceLeDiff, Nat.zero_le, and_true, o_aload_0r, o_aload_1r, o_callV_0, o_const_e, o_getf_e, o_goto_e, o_iald_e, o_iald_f, o_icmp_e, o_iinc_4, o_iload_2, o_iload_3, o_iload_4, o_ist_4, o_zret_0, o_zret_1, tl_n, tl_s, true_and, xnlv_i, xnlv_n, xnlv_r, xwt_0, xwt_f, xwt_i, xwt_l, xwt_r, le_nI (a := x.n) (b := j) (by omega) (by omega)]
    refine ⟨fun _ => ?_, fun g => by omega⟩
    have e : j = x.n := by omega
    rw [e] at ha
    rw [ha] at k
    exact k
  | succ m ih =>
    intro j hj ha
    have e1 := hG.gc ok (c := j) (by omega)
    have s1 := gn_lt (x := x) (c := j) (by omega)
    have s2 := oy.1 j
    have this := ih (j + 1) (by omega)
    rw [show x.any y q v (j + 1) = (x.any y q v j || (x.gn j == q && y.mk j == v)) from rfl, ha, Bool.false_or] at this
    rw [eX0_anyHas_3]
    simp only [eX0_anyHas_0, eX0_anyHas_1, eX0_anyHas_5, eX0_anyHas_6, eX0_anyHas_9, eX0_anyHas_12, eX0_anyHas_13, eX0_anyHas_16, eX0_anyHas_18, eX0_anyHas_19, eX0_anyHas_20, eX0_anyHas_23, eX0_anyHas_24, eX0_anyHas_27, eX0_anyHas_29, eX0_anyHas_30, eX0_anyHas_31, eX0_anyHas_34, eX0_anyHas_35, eX0_anyHas_36, eX0_anyHas_39, eX0_anyHas_42, eX0_anyHas_43, Nat.add_zero, Nat.reduceAdd, Nat.reduceLeDiff, Nat.zero_le, and_true, o_aload_0r, o_aload_1r, o_callV_0, o_const_e, o_getf_e, o_goto_e, o_iald_e, o_iald_f, o_icmp_e, o_iinc_4, o_iload_2, o_iload_3, o_iload_4, o_ist_4, o_zret_0, o_zret_1, tl_n, tl_s, true_and, xnlv_i, xnlv_n, xnlv_r, xwt_0, xwt_f, xwt_i, xwt_l, xwt_r, hl.cls, hl.g0, hl.g1, hl.g2, hl.g3, hl.g4, hl.g5, hl.g6, hl.g7, hl.g8, hl.g9, hl.g10, hl.g11]
    refine c_cells hl ?_
    rw [en]
    simp only [eX0_anyHas_0, eX0_anyHas_1, eX0_anyHas_5, eX0_anyHas_6, eX0_anyHas_9, eX0_anyHas_12, eX0_anyHas_13, eX0_anyHas_16, eX0_anyHas_18, eX0_anyHas_19, eX0_anyHas_20, eX0_anyHas_23, eX0_anyHas_24, eX0_anyHas_27, eX0_anyHas_29, eX0_anyHas_30, eX0_anyHas_31, eX0_anyHas_34, eX0_anyHas_35, eX0_anyHas_36, eX0_anyHas_39, eX0_anyHas_42, eX0_anyHas_43, Nat.add_zero, Nat.reduceAdd, Nat.reduceLeDiff, Nat.zero_le, and_true, o_aload_0r, o_aload_1r, o_callV_0, o_const_e, o_getf_e, o_goto_e, o_iald_e, o_iald_f, o_icmp_e, o_iinc_4, o_iload_2, o_iload_3, o_iload_4, o_ist_4, o_zret_0, o_zret_1, tl_n, tl_s, true_and, xnlv_i, xnlv_n, xnlv_r, xwt_0, xwt_f, xwt_i, xwt_l, xwt_r, le_nI (a := x.n) (b := j) (by omega) (by omega), hg.cls, hg.g0, hg.g1, hg.g2, hg.g3, hg.g4, hg.g5, hl.cls, hl.g0, hl.g1, hl.g2, hl.g3, hl.g4, hl.g5, hl.g6, hl.g7, hl.g8, hl.g9, hl.g10, hl.g11, hg.r_go (c := j) (by omega), e1, eq_nI (a := x.gn j) (b := q) (by omega) (by omega), n1, nI_add, hl.rm (c := j) (by omega), eq_nI (a := y.mk j) (b := v) (by omega) (by omega)]
    refine ⟨fun g => by omega, fun _ => ⟨fun g1 => this (by simp [g1]), fun g1 => ⟨fun g2 => this (by simp [g2]), fun g2 => ?_⟩⟩⟩
    have g1 := Classical.not_not.mp g1
    have g2 := Classical.not_not.mp g2
    have : x.any y q v (j + 1) = true := by
      show (x.any y q v j || (x.gn j == q && y.mk j == v)) = true
      rw [g1, g2]
      simp
    have := any_T (x.n - (j + 1)) (j + 1) this
    rw [show j + 1 + (x.n - (j + 1)) = x.n by omega] at this
    rw [this] at k
    simp only [eX0_anyHas_0, eX0_anyHas_1, eX0_anyHas_5, eX0_anyHas_6, eX0_anyHas_9, eX0_anyHas_12, eX0_anyHas_13, eX0_anyHas_16, eX0_anyHas_18, eX0_anyHas_19, eX0_anyHas_20, eX0_anyHas_23, eX0_anyHas_24, eX0_anyHas_27, eX0_anyHas_29, eX0_anyHas_30, eX0_anyHas_31, eX0_anyHas_34, eX0_anyHas_35, eX0_anyHas_36, eX0_anyHas_39, eX0_anyHas_42, eX0_anyHas_43, Nat.add_zero, Nat.reduceAdd, Nat.reduceLeDiff, Nat.zero_le, and_true, o_aload_0r, o_aload_1r, o_callV_0, o_const_e, o_getf_e, o_goto_e, o_iald_e, o_iald_f, o_icmp_e, o_iinc_4, o_iload_2, o_iload_3, o_iload_4, o_ist_4, o_zret_0, o_zret_1, tl_n, tl_s, true_and, xnlv_i, xnlv_n, xnlv_r, xwt_0, xwt_f, xwt_i, xwt_l, xwt_r, n1.symm]
    exact k
/-- Grains.anyHas(later, q, v) -/
theorem c_any (hg : GraAt AH g s) (hG : GrOK x s) (hl : LatAt AH b y lk pr) (ok : x.ok) (oy : y.ok) (en : y.n = x.n) {q v : Nat} (hq : q < x.gT) (hv : v < 8) {Q : Option Value → xH → Prop} (k : Q (some (.int (if x.any y q v x.n = true then 1 else 0))) AH) : XC MX0_anyHas [.ref g, .ref b, .int (nI q), .int (nI v)] AH Q := by
  refine XC.ofR (L := [some (.ref g), some (.ref b), some (.int (nI q)), some (.int (nI v)), none]) KX0_anyHas (by decide +kernel) (by first | decide | exact Nat.le_of_ble_eq_true rfl) rfl ?_
  simp only [eX0_anyHas_0, eX0_anyHas_1, eX0_anyHas_5, eX0_anyHas_6, eX0_anyHas_9, eX0_anyHas_12, eX0_anyHas_13, eX0_anyHas_16, eX0_anyHas_18, eX0_anyHas_19, eX0_anyHas_20, eX0_anyHas_23, eX0_anyHas_24, eX0_anyHas_27, eX0_anyHas_29, eX0_anyHas_30, eX0_anyHas_31, eX0_anyHas_34, eX0_anyHas_35, eX0_anyHas_36, eX0_anyHas_39, eX0_anyHas_42, eX0_anyHas_43, Nat.add_zero, Nat.reduceAdd, Nat.reduceLeDiff, Nat.zero_le, and_true, o_aload_0r, o_aload_1r, o_callV_0, o_const_e, o_getf_e, o_goto_e, o_iald_e, o_iald_f, o_icmp_e, o_iinc_4, o_iload_2, o_iload_3, o_iload_4, o_ist_4, o_zret_0, o_zret_1, tl_n, tl_s, true_and, xnlv_i, xnlv_n, xnlv_r, xwt_0, xwt_f, xwt_i, xwt_l, xwt_r]
  exact l_any hg hG hl ok oy en hq hv k x.n 0 (by omega) rfl
/-! squares -/
def sLat.cor (x : sLat) (q : Nat) : Nat := q / (x.wi - 1) * x.wi + q % (x.wi - 1)
def sLat.met (x : sLat) (c : Nat) : Nat := bc (2 ^ x.gn c ||| 2 ^ x.gn (c + 1) ||| 2 ^ x.gn (c + x.wi) ||| 2 ^ x.gn (c + x.wi + 1)) 40
theorem cor_lt {x : sLat} (ok : x.ok) {q : Nat} (hq : q < (x.hi - 1) * (x.wi - 1)) : x.cor q + x.wi + 1 < x.n := by
  have h1 := ok.2.2.1
  have h2 := ok.2.2.2.1
  unfold sLat.cor sLat.n
  generalize x.wi = wi at *
  generalize x.hi = hi at *
  obtain ⟨w, rfl⟩ : ∃ w, wi = w + 1 := ⟨wi - 1, by omega⟩
  obtain ⟨h, rfl⟩ : ∃ h, hi = h + 1 := ⟨hi - 1, by omega⟩
  simp only [Nat.add_sub_cancel] at *
  have h3 : q / w < h := (Nat.div_lt_iff_lt_mul (by omega)).mpr hq
  have h4 : q % w < w := Nat.mod_lt _ (by omega)
  have h5 : q / w * (w + 1) + (w + 1) ≤ h * (w + 1) := by
    have := Nat.mul_le_mul_right (w + 1) (show q / w + 1 ≤ h from h3)
    rw [Nat.add_mul, Nat.one_mul] at this
    exact this
  rw [Nat.add_mul h 1, Nat.one_mul]
  omega
/-- Grains.metAt(lattice, q) -/
theorem c_met (hg : GraAt AH g s) (hG : GrOK x s) (hl : LatAt AH b x lk pr) (ok : x.ok) {q : Nat} (hq : q < (x.hi - 1) * (x.wi - 1)) {Q : Option Value → xH → Prop} (k : Q (some (.int (nI (x.met (x.cor q))))) AH) : XC MX0_metAt [.ref g, .ref b, .int (nI q)] AH Q := by
  have hn := sLat.n36 ok
  have hgt := sLat.gT_le (x := x)
  have hc := cor_lt ok hq
  have hq2 : q < 100 := by
    have : (x.hi - 1) * (x.wi - 1) ≤ 5 * 5 := Nat.mul_le_mul (by have := ok.2.2.1; omega) (by have := ok.2.2.2.1; omega)
    omega
  unfold sLat.met at k
  refine XC.ofR (L := [some (.ref g), some (.ref b), some (.int (nI q)), none, none, none, none]) KX0_metAt (by decide +kernel) (by first | decide | exact Nat.le_of_ble_eq_true rfl) rfl ?_
  simp only [eX0_metAt_0, eX0_metAt_1, eX0_metAt_2, eX0_metAt_5, eX0_metAt_6, eX0_metAt_7, eX0_metAt_8, eX0_metAt_11, eX0_metAt_12, eX0_metAt_14, eX0_metAt_15, eX0_metAt_16, eX0_metAt_19, eX0_metAt_20, eX0_metAt_21, eX0_metAt_22, eX0_metAt_23, eX0_metAt_24, eX0_metAt_27, eX0_metAt_28, eX0_metAt_29, eX0_metAt_30, eX0_metAt_31, eX0_metAt_32, eX0_metAt_33, eX0_metAt_34, eX0_metAt_35, eX0_metAt_38, eX0_metAt_40, eX0_metAt_41, eX0_metAt_42, eX0_metAt_43, eX0_metAt_44, eX0_metAt_45, eX0_metAt_48, eX0_metAt_50, eX0_metAt_51, eX0_metAt_52, eX0_metAt_53, eX0_metAt_54, eX0_metAt_55, eX0_metAt_57, eX0_metAt_59, eX0_metAt_62, Nat.add_zero, Nat.reduceAdd, Nat.reduceLeDiff, Nat.zero_le, and_true, o_aload_0r, o_aload_1r, o_callS_1, o_callV_1, o_const_e, o_getf_e, o_iald_e, o_iald_f, o_ii_e, o_iload_2, o_iload_3, o_iload_4, o_iret_e, o_ist_3, o_ist_4, o_lil_e, o_ll_e, o_lload_5, o_lst_5, tl_n, tl_s, true_and, xnlv_i, xnlv_n, xnlv_r, xwt_0, xwt_f, xwt_i, xwt_l, xwt_r, hl.cls, hl.g0, hl.g1, hl.g2, hl.g3, hl.g4, hl.g5, hl.g6, hl.g7, hl.g8, hl.g9, hl.g10, hl.g11]
  refine c_corner hl ok hq2 ?_
  rw [show q / (x.wi - 1) * x.wi + q % (x.wi - 1) = x.cor q from rfl]
  generalize x.cor q = c at *
  have e0 := hG.gc ok (c := c) (by omega)
  have e1 := hG.gc ok (c := c + 1) (by omega)
  have e2 := hG.gc ok (c := c + x.wi) (by omega)
  have e3 := hG.gc ok (c := c + x.wi + 1) (by omega)
  have l0 := gn_lt (x := x) (c := c) (by omega)
  have l1 := gn_lt (x := x) (c := c + 1) (by omega)
  have l2 := gn_lt (x := x) (c := c + x.wi) (by omega)
  have l3 := gn_lt (x := x) (c := c + x.wi + 1) (by omega)
  simp only [eX0_metAt_0, eX0_metAt_1, eX0_metAt_2, eX0_metAt_5, eX0_metAt_6, eX0_metAt_7, eX0_metAt_8, eX0_metAt_11, eX0_metAt_12, eX0_metAt_14, eX0_metAt_15, eX0_metAt_16, eX0_metAt_19, eX0_metAt_20, eX0_metAt_21, eX0_metAt_22, eX0_metAt_23, eX0_metAt_24, eX0_metAt_27, eX0_metAt_28, eX0_metAt_29, eX0_metAt_30, eX0_metAt_31, eX0_metAt_32, eX0_metAt_33, eX0_metAt_34, eX0_metAt_35, eX0_metAt_38, eX0_metAt_40, eX0_metAt_41, eX0_metAt_42, eX0_metAt_43, eX0_metAt_44, eX0_metAt_45, eX0_metAt_48, eX0_metAt_50, eX0_metAt_51, eX0_metAt_52, eX0_metAt_53, eX0_metAt_54, eX0_metAt_55, eX0_metAt_57, eX0_metAt_59, eX0_metAt_62, Nat.add_zero, Nat.reduceAdd, Nat.reduceLeDiff, Nat.zero_le, and_true, o_aload_0r, o_aload_1r, o_callS_1, o_callV_1, o_const_e, o_getf_e, o_iald_e, o_iald_f, o_ii_e, o_iload_2, o_iload_3, o_iload_4, o_iret_e, o_ist_3, o_ist_4, o_lil_e, o_ll_e, o_lload_5, o_lst_5, tl_n, tl_s, true_and, xnlv_i, xnlv_n, xnlv_r, xwt_0, xwt_f, xwt_i, xwt_l, xwt_r, hl.cls, hl.g0, hl.g1, hl.g2, hl.g3, hl.g4, hl.g5, hl.g6, hl.g7, hl.g8, hl.g9, hl.g10, hl.g11, hg.cls, hg.g0, hg.g1, hg.g2, hg.g3, hg.g4, hg.g5, n1, nI_add, hg.r_go (c := c) (by omega), hg.r_go (c := c + 1) (by omega), hg.r_go (c := c + x.wi) (by omega), hg.r_go (c := c + x.wi + 1) (by omega), e0, e1, e2, e3, shlL_t (x.gn c) (by omega), shlL_t (x.gn (c + 1)) (by omega), shlL_t (x.gn (c + x.wi)) (by omega), shlL_t (x.gn (c + x.wi + 1)) (by omega), lN_or]
  have p : ∀ j, j < 36 → 2 ^ j < 2 ^ 36 := fun j hj => Nat.pow_lt_pow_right (by decide) hj
  refine c_bitCount (Nat.lt_of_lt_of_le (Nat.or_lt_two_pow (n := 36) (Nat.or_lt_two_pow (Nat.or_lt_two_pow (p _ (by omega)) (p _ (by omega))) (p _ (by omega))) (p _ (by omega))) (by decide)) ?_
  simp only [eX0_metAt_0, eX0_metAt_1, eX0_metAt_2, eX0_metAt_5, eX0_metAt_6, eX0_metAt_7, eX0_metAt_8, eX0_metAt_11, eX0_metAt_12, eX0_metAt_14, eX0_metAt_15, eX0_metAt_16, eX0_metAt_19, eX0_metAt_20, eX0_metAt_21, eX0_metAt_22, eX0_metAt_23, eX0_metAt_24, eX0_metAt_27, eX0_metAt_28, eX0_metAt_29, eX0_metAt_30, eX0_metAt_31, eX0_metAt_32, eX0_metAt_33, eX0_metAt_34, eX0_metAt_35, eX0_metAt_38, eX0_metAt_40, eX0_metAt_41, eX0_metAt_42, eX0_metAt_43, eX0_metAt_44, eX0_metAt_45, eX0_metAt_48, eX0_metAt_50, eX0_metAt_51, eX0_metAt_52, eX0_metAt_53, eX0_metAt_54, eX0_metAt_55, eX0_metAt_57, eX0_metAt_59, eX0_metAt_62, Nat.add_zero, Nat.reduceAdd, Nat.reduceLeDiff, Nat.zero_le, and_true, o_aload_0r, o_aload_1r, o_callS_1, o_callV_1, o_const_e, o_getf_e, o_iald_e, o_iald_f, o_ii_e, o_iload_2, o_iload_3, o_iload_4, o_iret_e, o_ist_3, o_ist_4, o_lil_e, o_ll_e, o_lload_5, o_lst_5, tl_n, tl_s, true_and, xnlv_i, xnlv_n, xnlv_r, xwt_0, xwt_f, xwt_i, xwt_l, xwt_r]
  exact k
end GR4
