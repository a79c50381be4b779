/-! a tape of the class -/
def tapC (b : Nat) (so : Int32) (z : Nat) (g : Nat → Int64) : List xE := [.inr (4, [.ref (b + 1), .int so, .int (nI z)]), cL 60 g]
def TapAt (A : xH) (b : Nat) (so : Int32) (z : Nat) (g : Nat → Int64) : Prop := BlkAt A b (tapC b so z g)
def tapP (A : xH) (b : Nat) (so : Int32) (z : Nat) (g : Nat → Int64) : xH := blkP A b (tapC b so z g)
def TapG (A : xH) (b : Nat) (so : Int32) (z : Nat) (f : Nat → Int64) : Prop := ∃ g, TapAt A b so z g ∧ ∀ i, i < 60 → g i = f i
theorem TapG.fr {A B : xH} {lo hi b z : Nat} {so : Int32} {f : Nat → Int64} (h : TapG A b so z f) (fr : Fr A B lo hi) (sep : b + 2 ≤ lo ∨ hi ≤ b) : TapG B b so z f := by
  obtain ⟨g, h1, h2⟩ := h
  exact ⟨g, BlkAt.fr2 h1 fr sep, h2⟩
section TAP
variable {AH : xH} {b : Nat} {so : Int32} {z : Nat} {g : Nat → Int64}
theorem TapAt.lt (h : TapAt AH b so z g) : b + 2 ≤ AH.length := BlkAt.len h (by show 0 < 2; decide)
theorem TapAt.put (h : TapAt AH b so z g) (s2 : Int32) (z2 : Nat) (g2 : Nat → Int64) : TapAt (tapP AH b s2 z2 g2) b s2 z2 g2 := BlkAt.put h.lt
theorem TapAt.F (h : TapAt AH b so z g) {s2 : Int32} {z2 : Nat} {g2 : Nat → Int64} : Fr AH (tapP AH b s2 z2 g2) b (b + 2) := Fr.blk h.lt rfl
theorem tapP_self (h : TapAt AH b so z g) : tapP AH b so z g = AH := blk_self h (by show 0 < 2; decide)
theorem tapP_tapP (hl : b + 2 ≤ AH.length) {s2 : Int32} {z2 : Nat} {g2 : Nat → Int64} : tapP (tapP AH b so z g) b s2 z2 g2 = tapP AH b s2 z2 g2 := blk_blk hl rfl
theorem TapAt.cls (h : TapAt AH b so z g) : xcls AH b 4 = True := xcls_of (h 0 _ rfl)
theorem TapAt.g0 (h : TapAt AH b so z g) {K : Value → Prop} : xgf AH b 4 0 K = K (.ref (b + 1)) := xgf_of (h 0 _ rfl) rfl
theorem TapAt.g1 (h : TapAt AH b so z g) {K : Value → Prop} : xgf AH b 4 1 K = K (.int so) := xgf_of (h 0 _ rfl) rfl
theorem TapAt.g2 (h : TapAt AH b so z g) {K : Value → Prop} : xgf AH b 4 2 K = K (.int (nI z)) := xgf_of (h 0 _ rfl) rfl
theorem TapAt.r (h : TapAt AH b so z g) {c : Nat} (hc : c < 60) {K : Int64 → Prop} : xlald AH (b + 1) (nI c) K = K (g c) := xlald_of (h 1 _ rfl) hc (by decide)
theorem TapAt.a1 (h : TapAt AH b so z g) {f2 : Nat → Int64} : AH.set (b + 1) (cL 60 f2) = tapP AH b so z f2 := blk_set h (by show 1 < 2; decide)
theorem TapAt.w (h : TapAt AH b so z g) {c : Nat} {v : Int64} (hc : c < 60) {K : xH → Prop} : xlast AH (b + 1) (nI c) v K = K (tapP AH b so z (vp_updL g c v)) := by
  rw [xlast_of (h 1 _ rfl) hc (by decide)]
  exact congrArg K (blk_set h (by show 1 < 2; decide))
theorem TapAt.p1 (h : TapAt AH b so z g) {v : Int32} {K : xH → Prop} : xpf AH b 4 1 (.int v) K = K (tapP AH b v z g) := by
  rw [xpf_of (a := b) (fs := _) (h 0 _ rfl) (by show 1 < 3; decide)]
  exact congrArg K (blk_set (i := 0) h (by show 0 < 2; decide))
theorem TapAt.p2 (h : TapAt AH b so z g) {v : Nat} {K : xH → Prop} : xpf AH b 4 2 (.int (nI v)) K = K (tapP AH b so v g) := by
  rw [xpf_of (a := b) (fs := _) (h 0 _ rfl) (by show 2 < 3; decide)]
  exact congrArg K (blk_set (i := 0) h (by show 0 < 2; decide))
/-- Tape.become(sort, n) -/
theorem c_become (h : TapAt AH b so z g) {s : Int32} {n : Nat} {Q : Option Value → xH → Prop} (k : Q none (tapP AH b s n (fun i => if i < 60 then 0 else g i))) : XC MX4_become [.ref b, .int s, .int (nI n)] AH Q := by
  refine XC.ofR (L := [some (.ref b), some (.int s), some (.int (nI n))]) KX4_become (by decide +kernel) (by first | decide | exact Nat.le_of_ble_eq_true rfl) rfl ?_
  simp only [eX4_become_0, eX4_become_1, eX4_become_4, eX4_become_5, eX4_become_8, eX4_become_9, eX4_become_10, eX4_become_13, eX4_become_14, eX4_become_15, eX4_become_18, Nat.add_zero, Nat.reduceAdd, Nat.reduceLeDiff, Nat.zero_le, and_true, o_aload_0r, o_callS_2, o_const_e, o_getf_e, o_iload_1, o_iload_2, o_putf_e, o_vret_e, tl_n, tl_s, true_and, xfit_a, xfit_i, xfit_l, xfit_o, xwt_0, xwt_f, xwt_i, xwt_l, xwt_r, h.g0]
  refine c_fillL (n := 60) (by decide) (h 1 _ rfl) ?_
  rw [h.a1]
  have h1 := h.put so z (fun i => if i < 60 then 0 else g i)
  have h2 := h.put s z (fun i => if i < 60 then 0 else g i)
  simp only [eX4_become_0, eX4_become_1, eX4_become_4, eX4_become_5, eX4_become_8, eX4_become_9, eX4_become_10, eX4_become_13, eX4_become_14, eX4_become_15, eX4_become_18, Nat.add_zero, Nat.reduceAdd, Nat.reduceLeDiff, Nat.zero_le, and_true, o_aload_0r, o_callS_2, o_const_e, o_getf_e, o_iload_1, o_iload_2, o_putf_e, o_vret_e, tl_n, tl_s, true_and, xfit_a, xfit_i, xfit_l, xfit_o, xwt_0, xwt_f, xwt_i, xwt_l, xwt_r, h1.p1, tapP_tapP h.lt, h2.p2]
  exact k
/-- Tape.hasPlace(i) -/
theorem c_hasPl (h : TapAt AH b so z g) (hz : z < 2 ^ 31) {v : Int32} {Q : Option Value → xH → Prop} (k : Q (some (.int (if (ix z v).isSome then 1 else 0))) AH) : XC MX4_hasPlace [.ref b, .int v] AH Q := by
  refine XC.ofR (L := [some (.ref b), some (.int v)]) KX4_hasPlace (by decide +kernel) (by first | decide | exact Nat.le_of_ble_eq_true rfl) rfl ?_
  simp only [eX4_hasPlace_0, eX4_hasPlace_1, eX4_hasPlace_4, eX4_hasPlace_5, eX4_hasPlace_6, eX4_hasPlace_9, eX4_hasPlace_12, eX4_hasPlace_13, eX4_hasPlace_16, eX4_hasPlace_17, o_aload_0r, o_const_e, o_getf_e, o_goto_e, o_icmp_e, o_if_e, o_iload_1, o_zret_0, o_zret_1, h.g2]
  rcases ix_cases (n := z) hz v with ⟨j, hj, rfl, e⟩ | ⟨h0, e⟩ | ⟨h0, h1, e⟩ <;> rw [e] at k
  · refine ⟨fun g => absurd g (nI_pos (by omega)), fun _ => ⟨fun g => ?_, fun _ => k⟩⟩
    rw [le_nI (by omega) (by omega)] at g
    omega
  · exact ⟨fun _ => k, fun g => absurd h0 g⟩
  · exact ⟨fun g => absurd g h0, fun _ => ⟨fun _ => k, fun g => absurd h1 g⟩⟩
/-- Tape.hasPlaces(i, n) -/
theorem c_hasPls (h : TapAt AH b so z g) (hz : z ≤ 60) {i n : Int32} {Q : Option Value → xH → Prop} (k : Q (some (.int (if (plc z i n).isSome then 1 else 0))) AH) : XC MX4_hasPlaces [.ref b, .int i, .int n] AH Q := by
  refine XC.ofR (L := [some (.ref b), some (.int i), some (.int n)]) KX4_hasPlaces (by decide +kernel) (by first | decide | exact Nat.le_of_ble_eq_true rfl) rfl ?_
  simp only [eX4_hasPlaces_0, eX4_hasPlaces_1, eX4_hasPlaces_4, eX4_hasPlaces_5, eX4_hasPlaces_8, eX4_hasPlaces_9, eX4_hasPlaces_10, eX4_hasPlaces_13, eX4_hasPlaces_16, eX4_hasPlaces_17, eX4_hasPlaces_18, eX4_hasPlaces_21, eX4_hasPlaces_22, eX4_hasPlaces_23, eX4_hasPlaces_26, eX4_hasPlaces_27, eX4_hasPlaces_30, eX4_hasPlaces_31, o_aload_0r, o_const_e, o_getf_e, o_goto_e, o_icmp_e, o_if_e, o_ii_e, o_iload_1, o_iload_2, o_zret_0, o_zret_1, h.g2]
  rcases plc_cases hz i n with ⟨a, c, e, rfl, rfl, hle⟩ | ⟨e, hn⟩ <;> rw [e] at k
  · refine ⟨fun g => absurd g (nI_pos (by omega)), fun _ => ⟨fun g => absurd g (nI_pos (by omega)), fun _ => ⟨fun g => ?_, fun _ => ⟨fun g => ?_, fun _ => k⟩⟩⟩⟩
    · rw [lt_nI (by omega) (by omega)] at g
      omega
    · rw [pk_sub (by omega), lt_nI (by omega) (by omega)] at g
      omega
  · refine ⟨fun _ => k, fun g0 => ⟨fun _ => k, fun g1 => ⟨fun _ => k, fun g2 => ⟨fun _ => k, fun g3 => absurd ?_ hn⟩⟩⟩⟩
    rw [lt_neg] at g0 g1
    rw [Int32.lt_iff_toInt_lt, sub_ti hz g0] at g3
    omega
/-- Tape.cut(v) -/
theorem c_cut (h : TapAt AH b so z g) (hs : ∃ j, j < 5 ∧ so = nI j) {v : Int64} {Q : Option Value → xH → Prop} (k : Q (some (.long (cutV so v))) AH) : XC MX4_cut [.ref b, .long v] AH Q := by
  unfold cutV at k
  refine XC.ofR (L := [some (.ref b), some (.long v), none]) KX4_cut (by decide +kernel) (by first | decide | exact Nat.le_of_ble_eq_true rfl) rfl ?_
  have e0 := propext (lg_cmp_eq v 0)
  simp only [eX4_cut_0, eX4_cut_1, eX4_cut_4, eX4_cut_40, eX4_cut_41, eX4_cut_42, eX4_cut_43, eX4_cut_44, eX4_cut_45, eX4_cut_46, eX4_cut_47, eX4_cut_48, eX4_cut_49, eX4_cut_50, eX4_cut_51, eX4_cut_52, eX4_cut_53, eX4_cut_54, eX4_cut_55, eX4_cut_56, eX4_cut_57, eX4_cut_60, eX4_cut_61, eX4_cut_64, eX4_cut_65, eX4_cut_66, eX4_cut_67, o_aload_0r, o_const_e, o_getf_e, o_goto_e, o_i1_e, o_if_e, o_il_e, o_li_e, o_lli_e, o_lload_1, o_lret_e, o_sw_e, xsw_0, xsw_1, h.g1, e0]
  refine ⟨fun g => ?_, fun g0 => ⟨fun g => ?_, fun g1 => ⟨fun g => ?_, fun g2 => ⟨fun g => ?_, fun g4 => ?_⟩⟩⟩⟩
  · rw [if_pos g] at k; exact k
  · rw [if_neg g0, if_pos g] at k; exact k
  · rw [if_neg g0, if_neg g1, if_pos g] at k; exact k
  · rw [if_neg g0, if_neg g1, if_neg g2, if_neg (by rw [g]; decide)] at k
    refine ⟨fun e => ?_, fun e => ?_⟩
    · rw [if_pos e] at k; exact k
    · rw [if_neg e] at k; exact k
  · have g3 : so = 3 := by
      obtain ⟨j, hj, rfl⟩ := hs
      rcases (show j = 0 ∨ j = 1 ∨ j = 2 ∨ j = 3 ∨ j = 4 by omega) with rfl | rfl | rfl | rfl | rfl
      · exact absurd rfl g0
      · exact absurd rfl g1
      · exact absurd rfl g2
      · rfl
      · exact absurd rfl g4
    rw [if_neg g0, if_neg g1, if_neg g2, if_pos g3] at k; exact k
end TAP
