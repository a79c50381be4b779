/-! links, prices, what is told by hand -/
theorem i10 : ((1 : Int32) = 0) = False := eq_false (by decide)
def rg (lo hi : Nat) (v : Int32) : Option Nat := if nI lo ≤ v ∧ v ≤ nI hi then some v.toNatClampNeg else none
theorem rg_cases {lo hi : Nat} (hl : lo < 2 ^ 31) (hh : hi < 2 ^ 31) (v : Int32) : (∃ j, lo ≤ j ∧ j ≤ hi ∧ v = nI j ∧ rg lo hi v = some j) ∨ (v < nI lo ∧ rg lo hi v = none) ∨ (¬ v < nI lo ∧ nI hi < v ∧ rg lo hi v = none) := by
  by_cases hlo : v < nI lo
  · refine Or.inr (Or.inl ⟨hlo, ?_⟩)
    unfold rg
    rw [if_neg (fun g => absurd g.1 (by rw [Int32.le_iff_toInt_le]; rw [Int32.lt_iff_toInt_lt] at hlo; omega))]
  by_cases hhi : nI hi < v
  · refine Or.inr (Or.inr ⟨hlo, hhi, ?_⟩)
    unfold rg
    rw [if_neg (fun g => absurd g.2 (by rw [Int32.le_iff_toInt_le]; rw [Int32.lt_iff_toInt_lt] at hhi; omega))]
  have e1 : nI lo ≤ v := by rw [Int32.le_iff_toInt_le]; rw [Int32.lt_iff_toInt_lt] at hlo; omega
  have e2 : v ≤ nI hi := by rw [Int32.le_iff_toInt_le]; rw [Int32.lt_iff_toInt_lt] at hhi; omega
  have t1 := nI_toInt hl
  have t2 := nI_toInt hh
  have h0 : ¬ v < 0 := fun g => by
    rw [Int32.le_iff_toInt_le] at e1
    rw [Int32.lt_iff_toInt_lt] at g
    rw [t1] at e1
    have : (0 : Int32).toInt = 0 := rfl
    omega
  obtain ⟨j, hj, rfl⟩ := nI_of h0
  rw [le_nI hl hj] at e1
  rw [le_nI hj hh] at e2
  refine Or.inl ⟨j, e1, e2, rfl, ?_⟩
  unfold rg
  rw [if_pos ⟨by rw [le_nI hl hj]; exact e1, by rw [le_nI hj hh]; exact e2⟩, nI_clamp hj]
section JDK
variable {AH : xH}
/-- Math.abs -/
theorem c_abs {v : Int32} {Q : Option Value → xH → Prop} (k : Q (some (.int (if 0 ≤ v then v else -v))) AH) : XC MJ9_abs_0f7a4 [.int v] AH Q := by
  refine XC.ofRF (L := [some (.int v)]) KJ9_abs_0f7a4 (by decide +kernel) (by first | decide | exact Nat.le_of_ble_eq_true rfl) rfl ?_
  simp only [eJ9_abs_0f7a4_0, eJ9_abs_0f7a4_1, eJ9_abs_0f7a4_4, eJ9_abs_0f7a4_5, eJ9_abs_0f7a4_6, eJ9_abs_0f7a4_9, eJ9_abs_0f7a4_10, o_goto_e, o_i1_e, o_if_e, o_iload_0, o_iret_e]
  exact ⟨fun g => by rw [if_pos g] at k; exact k, fun g => by rw [if_neg g] at k; exact k⟩
/-- Math.min -/
theorem c_min {v w : Int32} {Q : Option Value → xH → Prop} (k : Q (some (.int (if w < v then w else v))) AH) : XC MJ9_min_7cf53 [.int v, .int w] AH Q := by
  refine XC.ofRF (L := [some (.int v), some (.int w)]) KJ9_min_7cf53 (by decide +kernel) (by first | decide | exact Nat.le_of_ble_eq_true rfl) rfl ?_
  simp only [eJ9_min_7cf53_0, eJ9_min_7cf53_1, eJ9_min_7cf53_2, eJ9_min_7cf53_5, eJ9_min_7cf53_6, eJ9_min_7cf53_9, eJ9_min_7cf53_10, o_goto_e, o_icmp_e, o_iload_0, o_iload_1, o_iret_e]
  exact ⟨fun g => by rw [if_pos g] at k; exact k, fun g => by rw [if_neg g] at k; exact k⟩
/-- Math.max -/
theorem c_max {v w : Int32} {Q : Option Value → xH → Prop} (k : Q (some (.int (if v < w then w else v))) AH) : XC MJ9_max_7cf53 [.int v, .int w] AH Q := by
  refine XC.ofRF (L := [some (.int v), some (.int w)]) KJ9_max_7cf53 (by decide +kernel) (by first | decide | exact Nat.le_of_ble_eq_true rfl) rfl ?_
  simp only [eJ9_max_7cf53_0, eJ9_max_7cf53_1, eJ9_max_7cf53_2, eJ9_max_7cf53_5, eJ9_max_7cf53_6, eJ9_max_7cf53_9, eJ9_max_7cf53_10, o_goto_e, o_icmp_e, o_iload_0, o_iload_1, o_iret_e]
  exact ⟨fun g => by rw [if_pos g] at k; exact k, fun g => by rw [if_neg g] at k; exact k⟩
/-- Math.floorMod -/
def fmI (v w : Int32) : Int32 := if 0 ≤ v ^^^ w then v - v / w * w else if v - v / w * w = 0 then v - v / w * w else v - v / w * w + w
theorem c_floorMod {v w : Int32} (hw : ¬ w = 0) {Q : Option Value → xH → Prop} (k : Q (some (.int (fmI v w))) AH) : XC MJ9_floorMod_7cf53 [.int v, .int w] AH Q := by
  unfold fmI at k
  refine XC.ofRF (L := [some (.int v), some (.int w), none]) KJ9_floorMod_7cf53 (by decide +kernel) (by first | decide | exact Nat.le_of_ble_eq_true rfl) rfl ?_
  simp only [eJ9_floorMod_7cf53_0, eJ9_floorMod_7cf53_1, eJ9_floorMod_7cf53_2, eJ9_floorMod_7cf53_3, eJ9_floorMod_7cf53_4, eJ9_floorMod_7cf53_5, eJ9_floorMod_7cf53_6, eJ9_floorMod_7cf53_7, eJ9_floorMod_7cf53_10, eJ9_floorMod_7cf53_11, eJ9_floorMod_7cf53_14, eJ9_floorMod_7cf53_15, eJ9_floorMod_7cf53_16, eJ9_floorMod_7cf53_17, eJ9_floorMod_7cf53_18, eJ9_floorMod_7cf53_19, o_if_e, o_ii_e, o_iload_0, o_iload_1, o_iload_2, o_irem_e, o_iret_e, o_ist_2, true_and, xnlv_i, xnlv_n, xnlv_r]
  refine ⟨hw, fun g => by rw [if_pos g] at k; exact k, fun g => ⟨fun g2 => ?_, fun g2 => ?_⟩⟩
  · rw [if_neg g, if_pos g2] at k; exact k
  · rw [if_neg g, if_neg g2] at k; exact k
/-- Arrays.fill(int[], int) -/
theorem l_fillI {a n : Nat} {v : Int32} (hn : n < 2 ^ 31) {Q : xQ} : ∀ (m j : Nat), j + m = n → ∀ {AH : xH} {f g : Nat → Int32}, AH[a]? = some (cI n g) → (∀ i, g i = if i < j then v else f i) → (∀ g' : Nat → Int32, (∀ i, g' i = if i < n then v else f i) → Q none (AH.set a (cI n g')) (0, 0)) →
    XR TJ7_fill_53178 5 [some (.ref a), some (.int v), some (.int (nI j)), some (.int (nI n))] [] AH (0, 0) Q := by
  intro m
  induction m with
  | zero =>
    intro j hj AH f g ha hg k
    rw [eJ7_fill_53178_5]
    simp only [eJ7_fill_53178_0, eJ7_fill_53178_1, eJ7_fill_53178_2, eJ7_fill_53178_3, eJ7_fill_53178_4, eJ7_fill_53178_6, eJ7_fill_53178_7, eJ7_fill_53178_10, eJ7_fill_53178_11, eJ7_fill_53178_12, eJ7_fill_53178_13, eJ7_fill_53178_14, eJ7_fill_53178_17, eJ7_fill_53178_20, o_alen_e, o_aload_0r, o_const_e, o_goto_e, o_iast_e, o_icmp_e, o_iinc_2, o_iload_1, o_iload_2, o_iload_3, o_ist_2, o_ist_3, o_vret_e, true_and, xnlv_i, xnlv_n, xnlv_r, le_nI (a := n) (b := j) (by omega) (by omega)]
    refine ⟨fun _ => ?_, fun g => by omega⟩
    have := k g (fun i => by rw [hg i, show j = n by omega])
    rw [show AH.set a (cI n g) = AH from List.ext_getElem? (fun i => by
      rw [List.getElem?_set]
      split
      · rename_i e; subst e; rw [if_pos (List.getElem?_eq_some_iff.mp ha).1]; exact ha.symm
      · rfl)] at this
    exact this
  | succ m ih =>
    intro j hj AH f g ha hg k
    rw [eJ7_fill_53178_5]
    simp only [eJ7_fill_53178_0, eJ7_fill_53178_1, eJ7_fill_53178_2, eJ7_fill_53178_3, eJ7_fill_53178_4, eJ7_fill_53178_6, eJ7_fill_53178_7, eJ7_fill_53178_10, eJ7_fill_53178_11, eJ7_fill_53178_12, eJ7_fill_53178_13, eJ7_fill_53178_14, eJ7_fill_53178_17, eJ7_fill_53178_20, o_alen_e, o_aload_0r, o_const_e, o_goto_e, o_iast_e, o_icmp_e, o_iinc_2, o_iload_1, o_iload_2, o_iload_3, o_ist_2, o_ist_3, o_vret_e, true_and, xnlv_i, xnlv_n, xnlv_r, le_nI (a := n) (b := j) (by omega) (by omega), xast_of ha (show j < n by omega) hn, n1, nI_add]
    refine ⟨fun g => by omega, fun _ => ?_⟩
    have hl := (List.getElem?_eq_some_iff.mp ha).1
    refine ih (j + 1) (by omega) (f := f) (g := upd g j v) (by rw [List.getElem?_set, if_pos rfl, if_pos hl]) (fun i => ?_) (fun g' hg' => ?_)
    · unfold upd
      split
      · rename_i e; subst e; rw [if_pos (by omega)]
      · rename_i e; rw [hg i]; by_cases e2 : i < j
        · rw [if_pos e2, if_pos (by omega)]
        · rw [if_neg e2, if_neg (by omega)]
    · rw [List.set_set]
      exact k g' hg'
theorem c_fillI {a n : Nat} {v : Int32} {f : Nat → Int32} (hn : n < 2 ^ 31) (ha : AH[a]? = some (cI n f)) {Q : Option Value → xH → Prop} (k : Q none (AH.set a (cI n (fun i => if i < n then v else f i)))) : XC MJ7_fill_53178 [.ref a, .int v] AH Q := by
  refine XC.ofR (L := [some (.ref a), some (.int v), none, none]) KJ7_fill_53178 (by decide +kernel) (by first | decide | exact Nat.le_of_ble_eq_true rfl) rfl ?_
  simp only [eJ7_fill_53178_0, eJ7_fill_53178_1, eJ7_fill_53178_2, eJ7_fill_53178_3, eJ7_fill_53178_4, eJ7_fill_53178_6, eJ7_fill_53178_7, eJ7_fill_53178_10, eJ7_fill_53178_11, eJ7_fill_53178_12, eJ7_fill_53178_13, eJ7_fill_53178_14, eJ7_fill_53178_17, eJ7_fill_53178_20, o_alen_e, o_aload_0r, o_const_e, o_goto_e, o_iast_e, o_icmp_e, o_iinc_2, o_iload_1, o_iload_2, o_iload_3, o_ist_2, o_ist_3, o_vret_e, true_and, xnlv_i, xnlv_n, xnlv_r, xalen_of ha]
  refine l_fillI hn n 0 (by omega) ha (f := f) (fun i => by rw [if_neg (by omega)]) (fun g' hg' => ?_)
  rw [show g' = fun i => if i < n then v else f i from funext hg']
  exact k
/-- GrainGrower.isMark(v) -/
theorem c_isMark {v : Int32} {Q : Option Value → xH → Prop} (k : Q (some (.int (if (ix 8 v).isSome then 1 else 0))) AH) : XC MX6_isMark [.int v] AH Q := by
  refine XC.ofR (L := [some (.int v)]) KX6_isMark (by decide +kernel) (by first | decide | exact Nat.le_of_ble_eq_true rfl) rfl ?_
  simp only [eX6_isMark_0, eX6_isMark_1, eX6_isMark_4, eX6_isMark_5, eX6_isMark_7, eX6_isMark_10, eX6_isMark_11, eX6_isMark_14, eX6_isMark_15, o_const_e, o_goto_e, o_icmp_e, o_if_e, o_iload_0, o_zret_0, o_zret_1, n8]
  rcases ix_cases (n := 8) (by omega) v with ⟨j, hj, rfl, e⟩ | ⟨h0, e⟩ | ⟨h0, h1, e⟩ <;> rw [e] at k
  · rw [le_nI (by decide) (by omega)]
    exact ⟨fun g => absurd g (nI_pos (by omega)), fun _ => ⟨fun g => by omega, fun _ => k⟩⟩
  · exact ⟨fun _ => k, fun g => absurd h0 g⟩
  · exact ⟨fun g => absurd g h0, fun _ => ⟨fun _ => k, fun g => absurd h1 g⟩⟩
/-- Lattice.isSide(v) -/
theorem c_isSide {v : Int32} {Q : Option Value → xH → Prop} (k : Q (some (.int (if (rg 2 6 v).isSome then 1 else 0))) AH) : XC MX1_isSide [.int v] AH Q := by
  refine XC.ofR (L := [some (.int v)]) KX1_isSide (by decide +kernel) (by first | decide | exact Nat.le_of_ble_eq_true rfl) rfl ?_
  simp only [eX1_isSide_0, eX1_isSide_1, eX1_isSide_2, eX1_isSide_5, eX1_isSide_6, eX1_isSide_8, eX1_isSide_11, eX1_isSide_12, eX1_isSide_15, eX1_isSide_16, o_const_e, o_goto_e, o_icmp_e, o_iload_0, o_zret_0, o_zret_1, n2, n6]
  rcases rg_cases (lo := 2) (hi := 6) (by decide) (by decide) v with ⟨j, hj, hj2, rfl, e⟩ | ⟨h0, e⟩ | ⟨h0, h1, e⟩ <;> rw [e] at k
  · rw [lt_nI (by omega) (by decide), lt_nI (by decide) (by omega)]
    exact ⟨fun g => by omega, fun _ => ⟨fun g => by omega, fun _ => k⟩⟩
  · exact ⟨fun _ => k, fun g => absurd h0 g⟩
  · exact ⟨fun g => absurd g h0, fun _ => ⟨fun _ => k, fun g => absurd h1 g⟩⟩
end JDK
/-! a step -/
def rsI (s : Nat) : Int32 := [-1, 0, 1, 0, -1, 1, 1, -1].getD s 0
def csI (s : Nat) : Int32 := [0, 1, 0, -1, 1, 1, -1, -1].getD s 0
def stI (hi wi ed r q s : Nat) : Int32 :=
  if ed = 0 ∧ ((nI r + rsI s < 0 ∨ ¬ nI r + rsI s < nI hi) ∨ (nI q + csI s < 0 ∨ ¬ nI q + csI s < nI wi)) then -5
  else fmI (if ed = 2 ∧ (nI q + csI s < 0 ∨ ¬ nI q + csI s < nI wi) then nI r + rsI s + csI s else nI r + rsI s) (nI hi) * nI wi + fmI (nI q + csI s) (nI wi)
theorem st_t : ∀ hi, hi < 5 → ∀ wi, wi < 5 → ∀ ed, ed < 3 → ∀ r, r < hi + 2 → ∀ q, q < wi + 2 → ∀ s, s < 8 → stI (hi + 2) (wi + 2) ed r q s = lkV (nbF (hi + 2) (wi + 2) ed (r * (wi + 2) + q) s) := by decide +kernel
