/-! the reference's lattice: its small methods -/
def bkV (r : Option Nat) : Int32 := match r with
  | none => -1
  | some j => nI j
def dnI (d : Nat) : Int32 := [-1, 0, 1, 0, -1, 1, 1, -1, -1, 1].getD d 0
def rtI (d : Nat) : Int32 := [0, 1, 0, -1, 1, 1, -1, -1, 1, -1].getD d 0
def bsI (hi wi ed r q d : Nat) : Int32 :=
  if (nI r + dnI d < 0 ∨ nI r + dnI d = nI hi) ∧ ed = 0 then -1
  else if ¬ nI q + rtI d < 0 ∧ ¬ nI wi ≤ nI q + rtI d then nI wi * (nI r + dnI d + nI hi - (nI r + dnI d + nI hi) / nI hi * nI hi) + (nI q + rtI d)
  else if ed = 0 then -1
  else nI wi * (if ed = 2 then ((nI r + dnI d + nI hi - (nI r + dnI d + nI hi) / nI hi * nI hi) + (if nI q + rtI d < 0 then -1 else 1) + nI hi) - ((nI r + dnI d + nI hi - (nI r + dnI d + nI hi) / nI hi * nI hi) + (if nI q + rtI d < 0 then -1 else 1) + nI hi) / nI hi * nI hi else (nI r + dnI d + nI hi - (nI r + dnI d + nI hi) / nI hi * nI hi)) + (if nI q + rtI d < 0 then nI wi - 1 else 0)
def dds (d : Nat) : Nat := if d = 8 then 4 else if d = 9 then 6 else d
theorem bs_t : ∀ hi, hi < 5 → ∀ wi, wi < 5 → ∀ ed, ed < 3 → ∀ r, r < hi + 2 → ∀ q, q < wi + 2 → ∀ d, d < 10 → bsI (hi + 2) (wi + 2) ed r q d = bkV (nbF (hi + 2) (wi + 2) ed (r * (wi + 2) + q) (dds d)) := by decide +kernel
theorem bs_x {x : sLat} (ok : x.ok) {c d : Nat} (hc : c < x.n) (hs : d < 10) : bsI x.hi x.wi x.ed (c / x.wi) (c % x.wi) d = bkV (nbF x.hi x.wi x.ed c (dds d)) := by
  have h1 := ok.2.2.1
  have h2 := ok.2.2.2.1
  have h3 := ok.2.2.2.2.2.2.1
  have hr : c / x.wi < x.hi := Nat.div_lt_of_lt_mul (by rw [Nat.mul_comm]; exact hc)
  have hq : c % x.wi < x.wi := Nat.mod_lt _ (by omega)
  have := bs_t (x.hi - 2) (by omega) (x.wi - 2) (by omega) x.ed (by omega) (c / x.wi) (by omega) (c % x.wi) (by omega) d hs
  rw [show x.hi - 2 + 2 = x.hi by omega, show x.wi - 2 + 2 = x.wi by omega] at this
  rw [this, Nat.div_add_mod']
theorem sld_3 {d : Nat} (hd : d < 10) {K : Int32 → Prop} : xsld 3 (nI d) K = K (dnI d) := by
  show (vp_in (nI d) 10 ∧ K _) = _
  rw [eq_true (vp_in_nI hd (by decide)), true_and]
  rcases (show d = 0 ∨ d = 1 ∨ d = 2 ∨ d = 3 ∨ d = 4 ∨ d = 5 ∨ d = 6 ∨ d = 7 ∨ d = 8 ∨ d = 9 by omega) with rfl | rfl | rfl | rfl | rfl | rfl | rfl | rfl | rfl | rfl <;> rfl
theorem sld_4 {d : Nat} (hd : d < 10) {K : Int32 → Prop} : xsld 4 (nI d) K = K (rtI d) := by
  show (vp_in (nI d) 10 ∧ K _) = _
  rw [eq_true (vp_in_nI hd (by decide)), true_and]
  rcases (show d = 0 ∨ d = 1 ∨ d = 2 ∨ d = 3 ∨ d = 4 ∨ d = 5 ∨ d = 6 ∨ d = 7 ∨ d = 8 ∨ d = 9 by omega) with rfl | rfl | rfl | rfl | rfl | rfl | rfl | rfl | rfl | rfl <;> rfl
theorem ge_nlt (v : Int32) : (0 ≤ v) = ¬ v < 0 := propext (by rw [Int32.le_iff_toInt_le, Int32.lt_iff_toInt_lt]; omega)
theorem rg_ix {n : Nat} (hn : n < 2 ^ 31) (h0 : 0 < n) (v : Int32) : rg 0 (n - 1) v = ix n v := by
  rcases ix_cases hn v with ⟨j, hj, rfl, e⟩ | ⟨g0, e⟩ | ⟨g0, g1, e⟩
  · rcases rg_cases (lo := 0) (hi := n - 1) (by decide) (by omega) (nI j) with ⟨i, i1, i2, i3, e2⟩ | ⟨h0, e2⟩ | ⟨h0, h1, e2⟩
    · rw [e, e2, (nI_eq (by omega) (by omega)).mp i3]
    · rw [lt_nI (by omega) (by decide)] at h0; omega
    · rw [lt_nI (by omega) (by omega)] at h1; omega
  · rcases rg_cases (lo := 0) (hi := n - 1) (by decide) (by omega) v with ⟨i, i1, i2, rfl, e2⟩ | ⟨h0, e2⟩ | ⟨h0, h1, e2⟩
    · exact absurd g0 (nI_pos (by omega))
    · rw [e, e2]
    · rw [e, e2]
  · rcases rg_cases (lo := 0) (hi := n - 1) (by decide) (by omega) v with ⟨i, i1, i2, rfl, e2⟩ | ⟨h0, e2⟩ | ⟨h0, h1, e2⟩
    · rw [le_nI (by omega) (by omega)] at g1; omega
    · rw [e, e2]
    · rw [e, e2]
section MOD1
variable {AH : xH} {m : Nat} {s : sMod} {x : sLat} {r : sRow}
/-- in(v, lo, hi) -/
theorem d_in {v : Int32} {lo hi : Nat} (hl : lo < 2 ^ 31) (hh : hi < 2 ^ 31) {Q : Option Value → xH → Prop} (k : Q (some (.int (if (rg lo hi v).isSome then 1 else 0))) AH) : XC MX7_in [.int v, .int (nI lo), .int (nI hi)] AH Q := by
  refine XC.ofR (L := [some (.int v), some (.int (nI lo)), some (.int (nI hi))]) KX7_in (by decide +kernel) (by first | decide | exact Nat.le_of_ble_eq_true rfl) rfl ?_
  simp only [eX7_in_0, eX7_in_1, eX7_in_2, eX7_in_5, eX7_in_6, eX7_in_7, eX7_in_10, eX7_in_11, eX7_in_14, eX7_in_15, o_const_e, o_goto_e, o_icmp_e, o_iload_0, o_iload_1, o_iload_2, o_zret_0, o_zret_1]
  rcases rg_cases (lo := lo) (hi := hi) hl hh v with ⟨j, j1, j2, rfl, e⟩ | ⟨h0, e⟩ | ⟨h0, h1, e⟩ <;> rw [e] at k
  · rw [lt_nI (by omega) (by omega), lt_nI (by omega) (by omega)]
    exact ⟨fun g => by omega, fun _ => ⟨fun g => by omega, fun _ => k⟩⟩
  · exact ⟨fun _ => k, fun g => absurd h0 g⟩
  · exact ⟨fun g => absurd g h0, fun _ => ⟨fun _ => k, fun g => absurd h1 g⟩⟩
/-- cells() -/
theorem d_cells (h : MoL AH m s x r) {Q : Option Value → xH → Prop} (k : Q (some (.int (nI x.n))) AH) : XC MX7_cells [.ref m] AH Q := by
  refine XC.ofR (L := [some (.ref m)]) KX7_cells (by decide +kernel) (by first | decide | exact Nat.le_of_ble_eq_true rfl) rfl ?_
  simp only [eX7_cells_0, eX7_cells_1, eX7_cells_4, eX7_cells_5, eX7_cells_6, eX7_cells_7, eX7_cells_10, eX7_cells_11, eX7_cells_12, eX7_cells_13, o_aload_0r, o_const_e, o_getf_e, o_iald_e, o_iald_f, o_ii_e, o_iret_e, h.1.cls, h.1.g0, h.1.g1, h.1.g2, h.1.g3, h.1.g4, h.1.g5, h.1.g6, h.1.g7, h.1.g8, h.1.g9, h.1.g10, h.1.g11, h.1.g12, h.1.g13, h.1.g14, h.1.g15, h.1.g16, h.1.g17, h.1.g18, h.1.g19, h.i0, h.i1, h.i2, h.i3, h.i4, h.i5, h.i6, h.i7, h.i8, h.i9, h.i10, h.j0, h.j1, h.j2, h.j3, h.j4, h.j5, h.j6, h.j7, h.j8, h.j9, h.j10, pk_mul]
  exact k
theorem iff10 {p : Bool} {P : Int32 → Prop} : ((if p then 1 else 0 : Int32) = 0 ∨ (if p then 1 else 0 : Int32) = 1) := by cases p <;> decide
/-- isCell(v) -/
theorem d_isCell (h : MoL AH m s x r) (ok : x.ok) {v : Int32} {Q : Option Value → xH → Prop} (k : Q (some (.int (if (ix x.n v).isSome then 1 else 0))) AH) : XC MX7_isCell [.ref m, .int v] AH Q := by
  have hn := sLat.n36 ok
  have hn4 := sLat.n4 ok
  refine XC.ofR (L := [some (.ref m), some (.int v)]) KX7_isCell (by decide +kernel) (by first | decide | exact Nat.le_of_ble_eq_true rfl) rfl ?_
  simp only [eX7_isCell_0, eX7_isCell_1, eX7_isCell_2, eX7_isCell_3, eX7_isCell_6, eX7_isCell_7, eX7_isCell_8, eX7_isCell_11, Nat.add_zero, Nat.reduceAdd, Nat.reduceLeDiff, Nat.zero_le, and_true, o_aload_0r, o_callS_3, o_callV_0, o_const_e, o_ii_e, o_iload_1, o_zret_0, o_zret_1, tl_n, tl_s, true_and, xwt_0, xwt_f, xwt_i, xwt_l, xwt_r, h.1.cls, h.1.g0, h.1.g1, h.1.g2, h.1.g3, h.1.g4, h.1.g5, h.1.g6, h.1.g7, h.1.g8, h.1.g9, h.1.g10, h.1.g11, h.1.g12, h.1.g13, h.1.g14, h.1.g15, h.1.g16, h.1.g17, h.1.g18, h.1.g19, h.i0, h.i1, h.i2, h.i3, h.i4, h.i5, h.i6, h.i7, h.i8, h.i9, h.i10, h.j0, h.j1, h.j2, h.j3, h.j4, h.j5, h.j6, h.j7, h.j8, h.j9, h.j10]
  refine d_cells h ?_
  simp only [eX7_isCell_0, eX7_isCell_1, eX7_isCell_2, eX7_isCell_3, eX7_isCell_6, eX7_isCell_7, eX7_isCell_8, eX7_isCell_11, Nat.add_zero, Nat.reduceAdd, Nat.reduceLeDiff, Nat.zero_le, and_true, o_aload_0r, o_callS_3, o_callV_0, o_const_e, o_ii_e, o_iload_1, o_zret_0, o_zret_1, tl_n, tl_s, true_and, xwt_0, xwt_f, xwt_i, xwt_l, xwt_r, n1, pk_sub (a := x.n) (b := 1) (by omega)]
  refine d_in (lo := 0) (hi := x.n - 1) (by decide) (by omega) ?_
  rw [rg_ix (by omega) (by omega)]
  simp only [eX7_isCell_0, eX7_isCell_1, eX7_isCell_2, eX7_isCell_3, eX7_isCell_6, eX7_isCell_7, eX7_isCell_8, eX7_isCell_11, Nat.add_zero, Nat.reduceAdd, Nat.reduceLeDiff, Nat.zero_le, and_true, o_aload_0r, o_callS_3, o_callV_0, o_const_e, o_ii_e, o_iload_1, o_zret_0, o_zret_1, tl_n, tl_s, true_and, xwt_0, xwt_f, xwt_i, xwt_l, xwt_r]
  cases hj : (ix x.n v).isSome <;> rw [hj] at k
  · simp only [eX7_isCell_0, eX7_isCell_1, eX7_isCell_2, eX7_isCell_3, eX7_isCell_6, eX7_isCell_7, eX7_isCell_8, eX7_isCell_11, Nat.add_zero, Nat.reduceAdd, Nat.reduceLeDiff, Nat.zero_le, and_true, o_aload_0r, o_callS_3, o_callV_0, o_const_e, o_ii_e, o_iload_1, o_zret_0, o_zret_1, tl_n, tl_s, true_and, xwt_0, xwt_f, xwt_i, xwt_l, xwt_r, not_true_eq_false, not_false_eq_true, true_implies, false_implies, and_true, true_and, implies_true, forall_const, ↓reduceIte, Bool.false_eq_true, i10, i10n]
    exact k
  · simp only [eX7_isCell_0, eX7_isCell_1, eX7_isCell_2, eX7_isCell_3, eX7_isCell_6, eX7_isCell_7, eX7_isCell_8, eX7_isCell_11, Nat.add_zero, Nat.reduceAdd, Nat.reduceLeDiff, Nat.zero_le, and_true, o_aload_0r, o_callS_3, o_callV_0, o_const_e, o_ii_e, o_iload_1, o_zret_0, o_zret_1, tl_n, tl_s, true_and, xwt_0, xwt_f, xwt_i, xwt_l, xwt_r, not_true_eq_false, not_false_eq_true, true_implies, false_implies, and_true, true_and, implies_true, forall_const, ↓reduceIte, Bool.false_eq_true, i10, i10n]
    exact k
/-- isMark(v) -/
theorem d_isMark {v : Int32} {Q : Option Value → xH → Prop} (k : Q (some (.int (if (ix 8 v).isSome then 1 else 0))) AH) : XC MX7_isMark [.int v] AH Q := by
  refine XC.ofR (L := [some (.int v)]) KX7_isMark (by decide +kernel) (by first | decide | exact Nat.le_of_ble_eq_true rfl) rfl ?_
  simp only [eX7_isMark_0, eX7_isMark_1, eX7_isMark_2, eX7_isMark_4, eX7_isMark_7, Nat.add_zero, Nat.reduceAdd, Nat.reduceLeDiff, Nat.zero_le, and_true, o_callS_3, o_const_e, o_iload_0, o_zret_0, o_zret_1, tl_n, tl_s, true_and, xwt_0, xwt_f, xwt_i, xwt_l, xwt_r]
  refine d_in (lo := 0) (hi := 7) (by decide) (by omega) ?_
  rw [show 7 = 8 - 1 from rfl, rg_ix (by omega) (by omega)]
  simp only [eX7_isMark_0, eX7_isMark_1, eX7_isMark_2, eX7_isMark_4, eX7_isMark_7, Nat.add_zero, Nat.reduceAdd, Nat.reduceLeDiff, Nat.zero_le, and_true, o_callS_3, o_const_e, o_iload_0, o_zret_0, o_zret_1, tl_n, tl_s, true_and, xwt_0, xwt_f, xwt_i, xwt_l, xwt_r]
  cases hj : (ix 8 v).isSome <;> rw [hj] at k
  · simp only [eX7_isMark_0, eX7_isMark_1, eX7_isMark_2, eX7_isMark_4, eX7_isMark_7, Nat.add_zero, Nat.reduceAdd, Nat.reduceLeDiff, Nat.zero_le, and_true, o_callS_3, o_const_e, o_iload_0, o_zret_0, o_zret_1, tl_n, tl_s, true_and, xwt_0, xwt_f, xwt_i, xwt_l, xwt_r, not_true_eq_false, not_false_eq_true, true_implies, false_implies, and_true, true_and, implies_true, forall_const, ↓reduceIte, Bool.false_eq_true, i10, i10n]
    exact k
  · simp only [eX7_isMark_0, eX7_isMark_1, eX7_isMark_2, eX7_isMark_4, eX7_isMark_7, Nat.add_zero, Nat.reduceAdd, Nat.reduceLeDiff, Nat.zero_le, and_true, o_callS_3, o_const_e, o_iload_0, o_zret_0, o_zret_1, tl_n, tl_s, true_and, xwt_0, xwt_f, xwt_i, xwt_l, xwt_r, not_true_eq_false, not_false_eq_true, true_implies, false_implies, and_true, true_and, implies_true, forall_const, ↓reduceIte, Bool.false_eq_true, i10, i10n]
    exact k
/-- directions() -/
theorem d_directions (h : MoL AH m s x r) (ok : x.ok) {Q : Option Value → xH → Prop} (k : Q (some (.int (nI x.nd))) AH) : XC MX7_directions [.ref m] AH Q := by
  have h2 := ok.2.2.2.2.2.1
  refine XC.ofR (L := [some (.ref m)]) KX7_directions (by decide +kernel) (by first | decide | exact Nat.le_of_ble_eq_true rfl) rfl ?_
  simp only [eX7_directions_0, eX7_directions_1, eX7_directions_4, eX7_directions_5, eX7_directions_6, eX7_directions_7, eX7_directions_10, eX7_directions_12, eX7_directions_15, eX7_directions_16, eX7_directions_19, eX7_directions_20, eX7_directions_21, eX7_directions_22, eX7_directions_25, eX7_directions_27, eX7_directions_30, eX7_directions_31, o_aload_0r, o_const_e, o_getf_e, o_goto_e, o_iald_e, o_iald_f, o_icmp_e, o_iret_e, h.1.cls, h.1.g0, h.1.g1, h.1.g2, h.1.g3, h.1.g4, h.1.g5, h.1.g6, h.1.g7, h.1.g8, h.1.g9, h.1.g10, h.1.g11, h.1.g12, h.1.g13, h.1.g14, h.1.g15, h.1.g16, h.1.g17, h.1.g18, h.1.g19, h.i0, h.i1, h.i2, h.i3, h.i4, h.i5, h.i6, h.i7, h.i8, h.i9, h.i10, h.j0, h.j1, h.j2, h.j3, h.j4, h.j5, h.j6, h.j7, h.j8, h.j9, h.j10, n1, n2, eq_nI (a := x.ne) (b := 1) (by omega) (by omega), eq_nI (a := x.ne) (b := 2) (by omega) (by omega)]
  unfold sLat.nd at k
  rcases (show x.ne = 0 ∨ x.ne = 1 ∨ x.ne = 2 by omega) with e | e | e <;> simp only [e, not_true_eq_false, not_false_eq_true, true_implies, false_implies, and_true, true_and, implies_true, forall_const, or_true, true_or, or_false, false_or, or_self, and_self, and_false, false_and, ↓reduceIte, Nat.reduceEqDiff, Nat.succ_ne_zero, Nat.one_ne_zero, reduceCtorEq] at k ⊢ <;> exact k
/-- beside(c, d, near) -/
theorem d_beside3 (h : MoL AH m s x r) (ok : x.ok) {c d : Nat} (hc : c < x.n) (hd : d < x.nd) {Q : Option Value → xH → Prop} (k : Q (some (.int (bkV (x.nb c d)))) AH) : XC MX7_beside [.ref m, .int (nI c), .int (nI d), .int (nI x.ne)] AH Q := by
  have hn := sLat.n36 ok
  have h1 := ok.2.2.1
  have h2 := ok.2.2.2.1
  have h3 := ok.2.2.2.2.2.2.1
  have hne := ok.2.2.2.2.2.1
  have hd8 := sLat.nd8 (x := x)
  have zw0 : ¬ x.wi = 0 := by omega
  have zh0 : ¬ x.hi = 0 := by omega
  refine XC.ofR (L := [some (.ref m), some (.int (nI c)), some (.int (nI d)), some (.int (nI x.ne)), none, none, none, none]) KX7_beside (by decide +kernel) (by first | decide | exact Nat.le_of_ble_eq_true rfl) rfl ?_
  have fin : ∀ d' : Nat, d' < 10 → Q (some (.int (bsI x.hi x.wi x.ed (c / x.wi) (c % x.wi) d'))) AH → XR TX7_beside 17 [some (.ref m), some (.int (nI c)), some (.int (nI d)), some (.int (nI x.ne)), none, none, none, none] [.int (nI d')] AH (0, 0) (fun v AH' _ => Q v AH') := by
    intro d' hd' k
    unfold bsI at k
    simp only [eX7_beside_0, eX7_beside_1, eX7_beside_2, eX7_beside_5, eX7_beside_6, eX7_beside_7, eX7_beside_10, eX7_beside_11, eX7_beside_12, eX7_beside_13, eX7_beside_16, eX7_beside_17, eX7_beside_19, eX7_beside_20, eX7_beside_21, eX7_beside_24, eX7_beside_25, eX7_beside_26, eX7_beside_27, eX7_beside_30, eX7_beside_32, eX7_beside_33, eX7_beside_34, eX7_beside_36, eX7_beside_37, eX7_beside_38, eX7_beside_41, eX7_beside_42, eX7_beside_43, eX7_beside_44, eX7_beside_47, eX7_beside_49, eX7_beside_50, eX7_beside_51, eX7_beside_53, eX7_beside_55, eX7_beside_58, eX7_beside_60, eX7_beside_61, eX7_beside_64, eX7_beside_65, eX7_beside_66, eX7_beside_69, eX7_beside_70, eX7_beside_73, eX7_beside_74, eX7_beside_76, eX7_beside_78, eX7_beside_81, eX7_beside_82, eX7_beside_85, eX7_beside_86, eX7_beside_87, eX7_beside_90, eX7_beside_91, eX7_beside_94, eX7_beside_95, eX7_beside_98, eX7_beside_99, eX7_beside_100, eX7_beside_101, eX7_beside_102, eX7_beside_105, eX7_beside_106, eX7_beside_107, eX7_beside_108, eX7_beside_110, eX7_beside_112, eX7_beside_115, eX7_beside_117, eX7_beside_118, eX7_beside_121, eX7_beside_122, eX7_beside_123, eX7_beside_126, eX7_beside_127, eX7_beside_130, eX7_beside_131, eX7_beside_132, eX7_beside_134, eX7_beside_135, eX7_beside_137, eX7_beside_138, eX7_beside_140, eX7_beside_143, eX7_beside_144, eX7_beside_145, eX7_beside_148, eX7_beside_149, eX7_beside_150, eX7_beside_151, eX7_beside_154, eX7_beside_155, eX7_beside_156, eX7_beside_157, eX7_beside_160, eX7_beside_162, eX7_beside_164, eX7_beside_167, eX7_beside_168, eX7_beside_171, eX7_beside_172, eX7_beside_173, eX7_beside_174, eX7_beside_177, eX7_beside_178, eX7_beside_179, eX7_beside_180, eX7_beside_181, eX7_beside_184, eX7_beside_185, eX7_beside_186, eX7_beside_187, eX7_beside_189, eX7_beside_191, eX7_beside_194, eX7_beside_195, eX7_beside_198, eX7_beside_199, eX7_beside_200, eX7_beside_201, eX7_beside_202, eX7_beside_205, eX7_beside_206, eX7_beside_208, eX7_beside_209, eX7_beside_212, eX7_beside_213, eX7_beside_214, eX7_beside_216, eX7_beside_217, eX7_beside_219, eX7_beside_220, o_aload_0r, o_const_e, o_getf_e, o_gets_e, o_goto_e, o_iald_e, o_iald_f, o_icmp_e, o_idiv_e, o_if_e, o_ii_e, o_iload_1, o_iload_2, o_iload_3, o_iload_4, o_iload_5, o_iload_6, o_iload_7, o_irem_e, o_iret_e, o_ist_4, o_ist_5, o_ist_6, o_ist_7, true_and, xnlv_i, xnlv_n, xnlv_r, h.1.cls, h.1.g0, h.1.g1, h.1.g2, h.1.g3, h.1.g4, h.1.g5, h.1.g6, h.1.g7, h.1.g8, h.1.g9, h.1.g10, h.1.g11, h.1.g12, h.1.g13, h.1.g14, h.1.g15, h.1.g16, h.1.g17, h.1.g18, h.1.g19, h.i0, h.i1, h.i2, h.i3, h.i4, h.i5, h.i6, h.i7, h.i8, h.i9, h.i10, h.j0, h.j1, h.j2, h.j3, h.j4, h.j5, h.j6, h.j7, h.j8, h.j9, h.j10, sld_3 hd', sld_4 hd', pk_div (a := c) (d := x.wi) (by omega) (by omega) (by omega), rem2, eq0_nI (a := x.wi) (by omega), eq0_nI (a := x.ed) (by omega), zw0, not_true_eq_false, not_false_eq_true, true_implies, false_implies, and_true, true_and, implies_true, forall_const, ↓reduceIte, Bool.false_eq_true, i10, i10n]
    generalize nI (c / x.wi) + dnI d' = row at *
    generalize nI (c % x.wi) + rtI d' = col at *
    have f92 : ∀ w7 : Int32, ¬ ((row < 0 ∨ row = nI x.hi) ∧ x.ed = 0) → XR TX7_beside 92 [some (.ref m), some (.int (nI c)), some (.int (nI d)), some (.int (nI x.ne)), some (.int (nI d')), some (.int row), some (.int col), some (.int w7)] [] AH (0, 0) (fun v AH' _ => Q v AH') := by
      intro w7 g0
      rw [if_neg g0] at k
      simp only [eX7_beside_0, eX7_beside_1, eX7_beside_2, eX7_beside_5, eX7_beside_6, eX7_beside_7, eX7_beside_10, eX7_beside_11, eX7_beside_12, eX7_beside_13, eX7_beside_16, eX7_beside_17, eX7_beside_19, eX7_beside_20, eX7_beside_21, eX7_beside_24, eX7_beside_25, eX7_beside_26, eX7_beside_27, eX7_beside_30, eX7_beside_32, eX7_beside_33, eX7_beside_34, eX7_beside_36, eX7_beside_37, eX7_beside_38, eX7_beside_41, eX7_beside_42, eX7_beside_43, eX7_beside_44, eX7_beside_47, eX7_beside_49, eX7_beside_50, eX7_beside_51, eX7_beside_53, eX7_beside_55, eX7_beside_58, eX7_beside_60, eX7_beside_61, eX7_beside_64, eX7_beside_65, eX7_beside_66, eX7_beside_69, eX7_beside_70, eX7_beside_73, eX7_beside_74, eX7_beside_76, eX7_beside_78, eX7_beside_81, eX7_beside_82, eX7_beside_85, eX7_beside_86, eX7_beside_87, eX7_beside_90, eX7_beside_91, eX7_beside_92, eX7_beside_94, eX7_beside_95, eX7_beside_98, eX7_beside_99, eX7_beside_100, eX7_beside_101, eX7_beside_102, eX7_beside_105, eX7_beside_106, eX7_beside_107, eX7_beside_108, eX7_beside_110, eX7_beside_112, eX7_beside_115, eX7_beside_117, eX7_beside_118, eX7_beside_121, eX7_beside_122, eX7_beside_123, eX7_beside_126, eX7_beside_127, eX7_beside_130, eX7_beside_131, eX7_beside_132, eX7_beside_134, eX7_beside_135, eX7_beside_137, eX7_beside_138, eX7_beside_139, eX7_beside_140, eX7_beside_143, eX7_beside_144, eX7_beside_145, eX7_beside_148, eX7_beside_149, eX7_beside_150, eX7_beside_151, eX7_beside_154, eX7_beside_155, eX7_beside_156, eX7_beside_157, eX7_beside_160, eX7_beside_162, eX7_beside_164, eX7_beside_167, eX7_beside_168, eX7_beside_171, eX7_beside_172, eX7_beside_173, eX7_beside_174, eX7_beside_177, eX7_beside_178, eX7_beside_179, eX7_beside_180, eX7_beside_181, eX7_beside_184, eX7_beside_185, eX7_beside_186, eX7_beside_187, eX7_beside_189, eX7_beside_191, eX7_beside_194, eX7_beside_195, eX7_beside_198, eX7_beside_199, eX7_beside_200, eX7_beside_201, eX7_beside_202, eX7_beside_205, eX7_beside_206, eX7_beside_208, eX7_beside_209, eX7_beside_212, eX7_beside_213, eX7_beside_214, eX7_beside_216, eX7_beside_217, eX7_beside_219, eX7_beside_220, o_aload_0r, o_const_e, o_getf_e, o_gets_e, o_goto_e, o_iald_e, o_iald_f, o_icmp_e, o_idiv_e, o_if_e, o_ii_e, o_iload_1, o_iload_2, o_iload_3, o_iload_4, o_iload_5, o_iload_6, o_iload_7, o_irem_e, o_iret_e, o_ist_4, o_ist_5, o_ist_6, o_ist_7, true_and, xnlv_i, xnlv_n, xnlv_r, h.1.cls, h.1.g0, h.1.g1, h.1.g2, h.1.g3, h.1.g4, h.1.g5, h.1.g6, h.1.g7, h.1.g8, h.1.g9, h.1.g10, h.1.g11, h.1.g12, h.1.g13, h.1.g14, h.1.g15, h.1.g16, h.1.g17, h.1.g18, h.1.g19, h.i0, h.i1, h.i2, h.i3, h.i4, h.i5, h.i6, h.i7, h.i8, h.i9, h.i10, h.j0, h.j1, h.j2, h.j3, h.j4, h.j5, h.j6, h.j7, h.j8, h.j9, h.j10, eq0_nI (a := x.hi) (by omega), eq0_nI (a := x.ed) (by omega), n2, eq_nI (a := x.ed) (b := 2) (by omega) (by omega), ge_nlt, zh0, not_true_eq_false, not_false_eq_true, true_implies, false_implies, and_true, true_and, implies_true, forall_const, ↓reduceIte, Bool.false_eq_true, i10, i10n]
      generalize row + nI x.hi - (row + nI x.hi) / nI x.hi * nI x.hi = r1 at *
      rcases (show x.ed = 0 ∨ x.ed = 1 ∨ x.ed = 2 by omega) with e | e | e <;> by_cases a3 : col < 0 <;> by_cases a4 : nI x.wi ≤ col <;> simp only [e, a3, a4, not_true_eq_false, not_false_eq_true, true_implies, false_implies, and_true, true_and, implies_true, forall_const, or_true, true_or, or_false, false_or, or_self, and_self, and_false, false_and, ↓reduceIte, Nat.reduceEqDiff, Nat.succ_ne_zero, Nat.one_ne_zero, reduceCtorEq] at k ⊢ <;> exact k
    by_cases a1 : row < 0
    · by_cases e : x.ed = 0
      · rw [if_pos ⟨Or.inl a1, e⟩] at k
        simp only [e, a1, i10, not_true_eq_false, not_false_eq_true, true_implies, false_implies, and_true, true_and, implies_true, forall_const, or_true, true_or, or_false, false_or, or_self, and_self, and_false, false_and, ↓reduceIte, Nat.reduceEqDiff, Nat.succ_ne_zero, Nat.one_ne_zero, reduceCtorEq]
        exact k
      · simp only [e, a1, i10, not_true_eq_false, not_false_eq_true, true_implies, false_implies, and_true, true_and, implies_true, forall_const, or_true, true_or, or_false, false_or, or_self, and_self, and_false, false_and, ↓reduceIte, Nat.reduceEqDiff, Nat.succ_ne_zero, Nat.one_ne_zero, reduceCtorEq]
        exact f92 _ (fun g => e g.2)
    · by_cases a2 : row = nI x.hi
      · by_cases e : x.ed = 0
        · rw [if_pos ⟨Or.inr a2, e⟩] at k
          simp only [e, a1, i10, not_true_eq_false, not_false_eq_true, true_implies, false_implies, and_true, true_and, implies_true, forall_const, or_true, true_or, or_false, false_or, or_self, and_self, and_false, false_and, ↓reduceIte, Nat.reduceEqDiff, Nat.succ_ne_zero, Nat.one_ne_zero, reduceCtorEq]
          exact ⟨fun g => absurd a2 g, fun _ => k⟩
        · simp only [e, a1, i10, not_true_eq_false, not_false_eq_true, true_implies, false_implies, and_true, true_and, implies_true, forall_const, or_true, true_or, or_false, false_or, or_self, and_self, and_false, false_and, ↓reduceIte, Nat.reduceEqDiff, Nat.succ_ne_zero, Nat.one_ne_zero, reduceCtorEq]
          exact ⟨fun g => absurd a2 g, fun _ => f92 _ (fun g => e g.2)⟩
      · simp only [a1, a2, i10, not_true_eq_false, not_false_eq_true, true_implies, false_implies, and_true, true_and, implies_true, forall_const, or_true, true_or, or_false, false_or, or_self, and_self, and_false, false_and, ↓reduceIte, Nat.reduceEqDiff, Nat.succ_ne_zero, Nat.one_ne_zero, reduceCtorEq]
        exact f92 _ (fun g => g.1.elim a1 a2)
  have hk : ∀ d' : Nat, d' < 10 → dds d' = stp x.ne d → Q (some (.int (bsI x.hi x.wi x.ed (c / x.wi) (c % x.wi) d'))) AH := fun d' h1 h2 => by
    rw [bs_x ok hc h1, h2]
    exact k
  simp only [eX7_beside_0, eX7_beside_1, eX7_beside_2, eX7_beside_5, eX7_beside_6, eX7_beside_7, eX7_beside_10, eX7_beside_11, eX7_beside_12, eX7_beside_13, eX7_beside_16, eX7_beside_19, eX7_beside_20, eX7_beside_21, eX7_beside_24, eX7_beside_25, eX7_beside_26, eX7_beside_27, eX7_beside_30, eX7_beside_32, eX7_beside_33, eX7_beside_34, eX7_beside_36, eX7_beside_37, eX7_beside_38, eX7_beside_41, eX7_beside_42, eX7_beside_43, eX7_beside_44, eX7_beside_47, eX7_beside_49, eX7_beside_50, eX7_beside_51, eX7_beside_53, eX7_beside_55, eX7_beside_58, eX7_beside_60, eX7_beside_61, eX7_beside_64, eX7_beside_65, eX7_beside_66, eX7_beside_69, eX7_beside_70, eX7_beside_73, eX7_beside_74, eX7_beside_76, eX7_beside_78, eX7_beside_81, eX7_beside_82, eX7_beside_85, eX7_beside_86, eX7_beside_87, eX7_beside_90, eX7_beside_91, eX7_beside_92, eX7_beside_94, eX7_beside_95, eX7_beside_98, eX7_beside_99, eX7_beside_100, eX7_beside_101, eX7_beside_102, eX7_beside_105, eX7_beside_106, eX7_beside_107, eX7_beside_108, eX7_beside_110, eX7_beside_112, eX7_beside_115, eX7_beside_117, eX7_beside_118, eX7_beside_121, eX7_beside_122, eX7_beside_123, eX7_beside_126, eX7_beside_127, eX7_beside_130, eX7_beside_131, eX7_beside_132, eX7_beside_134, eX7_beside_135, eX7_beside_137, eX7_beside_138, eX7_beside_139, eX7_beside_140, eX7_beside_143, eX7_beside_144, eX7_beside_145, eX7_beside_148, eX7_beside_149, eX7_beside_150, eX7_beside_151, eX7_beside_154, eX7_beside_155, eX7_beside_156, eX7_beside_157, eX7_beside_160, eX7_beside_162, eX7_beside_164, eX7_beside_167, eX7_beside_168, eX7_beside_171, eX7_beside_172, eX7_beside_173, eX7_beside_174, eX7_beside_177, eX7_beside_178, eX7_beside_179, eX7_beside_180, eX7_beside_181, eX7_beside_184, eX7_beside_185, eX7_beside_186, eX7_beside_187, eX7_beside_189, eX7_beside_191, eX7_beside_194, eX7_beside_195, eX7_beside_198, eX7_beside_199, eX7_beside_200, eX7_beside_201, eX7_beside_202, eX7_beside_205, eX7_beside_206, eX7_beside_208, eX7_beside_209, eX7_beside_212, eX7_beside_213, eX7_beside_214, eX7_beside_216, eX7_beside_217, eX7_beside_219, eX7_beside_220, o_aload_0r, o_const_e, o_getf_e, o_gets_e, o_goto_e, o_iald_e, o_iald_f, o_icmp_e, o_idiv_e, o_if_e, o_ii_e, o_iload_1, o_iload_2, o_iload_3, o_iload_4, o_iload_5, o_iload_6, o_iload_7, o_irem_e, o_iret_e, o_ist_4, o_ist_5, o_ist_6, o_ist_7, true_and, xnlv_i, xnlv_n, xnlv_r, n2, eq_nI (a := x.ne) (b := 2) (by omega) (by omega), n4, lt_nI (a := d) (b := 4) (by omega) (by omega), nI_add]
  refine ⟨fun g => ?_, fun g => ⟨fun g2 => ?_, fun g2 => ?_⟩⟩
  · refine fin d (by omega) (hk d (by omega) ?_)
    unfold dds stp
    rw [if_neg (by omega), if_neg (by omega), if_neg g]
  · have g := Classical.not_not.mp g
    refine fin d (by omega) (hk d (by omega) ?_)
    unfold dds stp
    rw [if_neg (by omega), if_neg (by omega), if_pos g]
    rcases (show d = 0 ∨ d = 1 ∨ d = 2 ∨ d = 3 by omega) with rfl | rfl | rfl | rfl <;> rfl
  · have g := Classical.not_not.mp g
    have : x.nd = 6 := by unfold sLat.nd; rw [g]; rfl
    refine fin (d + 4) (by omega) (hk (d + 4) (by omega) ?_)
    unfold dds stp
    rw [if_pos g]
    rcases (show d = 4 ∨ d = 5 by omega) with rfl | rfl <;> rfl
/-- besideNow(c, d) -/
theorem d_beside (h : MoL AH m s x r) (ok : x.ok) {c d : Nat} (hc : c < x.n) (hd : d < x.nd) {Q : Option Value → xH → Prop} (k : Q (some (.int (bkV (x.nb c d)))) AH) : XC MX7_besideNow [.ref m, .int (nI c), .int (nI d)] AH Q := by
  refine XC.ofR (L := [some (.ref m), some (.int (nI c)), some (.int (nI d))]) KX7_besideNow (by decide +kernel) (by first | decide | exact Nat.le_of_ble_eq_true rfl) rfl ?_
  simp only [eX7_besideNow_0, eX7_besideNow_1, eX7_besideNow_2, eX7_besideNow_3, eX7_besideNow_4, eX7_besideNow_7, eX7_besideNow_8, eX7_besideNow_9, eX7_besideNow_12, Nat.add_zero, Nat.reduceAdd, Nat.reduceLeDiff, Nat.zero_le, and_true, o_aload_0r, o_callV_3, o_const_e, o_getf_e, o_iald_e, o_iald_f, o_iload_1, o_iload_2, o_iret_e, tl_n, tl_s, true_and, xwt_0, xwt_f, xwt_i, xwt_l, xwt_r, h.1.cls, h.1.g0, h.1.g1, h.1.g2, h.1.g3, h.1.g4, h.1.g5, h.1.g6, h.1.g7, h.1.g8, h.1.g9, h.1.g10, h.1.g11, h.1.g12, h.1.g13, h.1.g14, h.1.g15, h.1.g16, h.1.g17, h.1.g18, h.1.g19, h.i0, h.i1, h.i2, h.i3, h.i4, h.i5, h.i6, h.i7, h.i8, h.i9, h.i10, h.j0, h.j1, h.j2, h.j3, h.j4, h.j5, h.j6, h.j7, h.j8, h.j9, h.j10]
  refine d_beside3 h ok hc hd ?_
  simp only [eX7_besideNow_0, eX7_besideNow_1, eX7_besideNow_2, eX7_besideNow_3, eX7_besideNow_4, eX7_besideNow_7, eX7_besideNow_8, eX7_besideNow_9, eX7_besideNow_12, Nat.add_zero, Nat.reduceAdd, Nat.reduceLeDiff, Nat.zero_le, and_true, o_aload_0r, o_callV_3, o_const_e, o_getf_e, o_iald_e, o_iald_f, o_iload_1, o_iload_2, o_iret_e, tl_n, tl_s, true_and, xwt_0, xwt_f, xwt_i, xwt_l, xwt_r]
  exact k
end MOD1
