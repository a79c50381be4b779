/-! the public methods: what is told by hand -/
theorem rng0 {hi : Nat} (hh : hi < 2147483647) {v : Int32} {A B : Prop} (a : ix (hi + 1) v = none → A) (b : ∀ j, j ≤ hi → v = nI j → ix (hi + 1) v = some j → B) : (v < 0 → A) ∧ (¬ v < 0 → (v ≤ nI hi → B) ∧ (¬ v ≤ nI hi → A)) := by
  rcases ix_cases (n := hi + 1) (by omega) v with ⟨j, h1, h2, e⟩ | ⟨h0, e⟩ | ⟨h0, h1, e⟩
  · have hb := b j (by omega) h2 e
    refine ⟨fun g => absurd g (by rw [h2]; exact nI_pos (by omega)), fun _ => ⟨fun _ => hb, fun g => absurd ?_ g⟩⟩
    rw [h2]
    exact (nI_leI (by omega) (by omega)).mpr (by omega)
  · exact ⟨fun _ => a e, fun g => absurd h0 g⟩
  · refine ⟨fun g => absurd g h0, fun _ => ⟨fun g => ?_, fun _ => a e⟩⟩
    rw [Int32.le_iff_toInt_le, nI_toInt (by omega)] at g h1
    omega
theorem rngR {lo hi : Nat} (hl : lo < 2 ^ 31) (hh : hi < 2 ^ 31) {v : Int32} {A B : Prop} (a : rg lo hi v = none → A) (b : ∀ j, lo ≤ j → j ≤ hi → v = nI j → rg lo hi v = some j → B) : (v < nI lo → A) ∧ (¬ v < nI lo → (v ≤ nI hi → B) ∧ (¬ v ≤ nI hi → A)) := by
  rcases rg_cases hl hh v with ⟨j, h1, h3, h2, e⟩ | ⟨h0, e⟩ | ⟨h0, h1, e⟩
  · have hb := b j h1 h3 h2 e
    refine ⟨fun g => ?_, fun _ => ⟨fun _ => hb, fun g => absurd ?_ g⟩⟩
    · rw [h2, lt_nI (by omega) hl] at g
      omega
    · rw [h2]
      exact (nI_leI (by omega) hh).mpr h3
  · exact ⟨fun _ => a e, fun g => absurd h0 g⟩
  · refine ⟨fun g => absurd g h0, fun _ => ⟨fun g => ?_, fun _ => a e⟩⟩
    rw [Int32.le_iff_toInt_le] at g
    rw [Int32.lt_iff_toInt_lt] at h1
    omega
noncomputable def sLat.aChg (x : sLat) (c v : Int32) : Int32 × sLat := match ix x.n c with
  | none => (-1, x)
  | some j => match ix 8 v with
    | none => (-2, x)
    | some q => (nI (x.at1 j q).2, (x.at1 j q).1)
noncomputable def sLat.aTri (x : sLat) (v : Int32) : Int32 × sLat := match rg 0 200 v with
  | none => (-2, x)
  | some n => (nI (x.trN n).2, (x.trN n).1)
noncomputable def sLat.aCoo (x : sLat) (v : Int32) : Int32 × sLat := match rg 0 30 v with
  | none => (-2, x)
  | some n => (nI (x.coN n).2, (x.coN n).1)
section PUBA
variable {AH : xH} {o : Nat} {S : sCls}
theorem q_size (h : CAt AH o S) {a b : Int32} {Q : Option Value → xH → Prop} (k : ∀ A, Fr AH A o (o + 57) → CAt A o (S.wx (S.x.sSize a b).2) → Q (some (.int (S.x.sSize a b).1)) A) : XC MX6_size [.ref o, .int a, .int b] AH Q := by
  refine XC.ofR (L := [some (.ref o), some (.int a), some (.int b)]) KX6_size (by decide +kernel) (by first | decide | exact Nat.le_of_ble_eq_true rfl) rfl ?_
  simp only [eX6_size_0, eX6_size_1, eX6_size_4, eX6_size_7, eX6_size_8, eX6_size_9, eX6_size_12, Nat.add_zero, Nat.reduceAdd, Nat.reduceLeDiff, Nat.zero_le, and_true, o_aload_0r, o_callV_2, o_getf_e, o_iload_1, o_iload_2, o_iret_e, tl_n, tl_s, true_and, xwt_0, xwt_f, xwt_i, xwt_l, xwt_r, h.g0, h.w0, h.lc]
  refine g_size h.L h.O.1 (fun A F G => ?_)
  simp only [eX6_size_0, eX6_size_1, eX6_size_4, eX6_size_7, eX6_size_8, eX6_size_9, eX6_size_12, Nat.add_zero, Nat.reduceAdd, Nat.reduceLeDiff, Nat.zero_le, and_true, o_aload_0r, o_callV_2, o_getf_e, o_iload_1, o_iload_2, o_iret_e, tl_n, tl_s, true_and, xwt_0, xwt_f, xwt_i, xwt_l, xwt_r]
  exact k A (F.wd (by omega) (by omega)) (h.upL F G (sSize_ok h.O.1))
theorem q_mark (h : CAt AH o S) {a b : Int32} {Q : Option Value → xH → Prop} (k : ∀ A, Fr AH A o (o + 57) → CAt A o (S.wx (S.x.sMark a b).2) → Q (some (.int (S.x.sMark a b).1)) A) : XC MX6_mark [.ref o, .int a, .int b] AH Q := by
  refine XC.ofR (L := [some (.ref o), some (.int a), some (.int b)]) KX6_mark (by decide +kernel) (by first | decide | exact Nat.le_of_ble_eq_true rfl) rfl ?_
  simp only [eX6_mark_0, eX6_mark_1, eX6_mark_4, eX6_mark_7, eX6_mark_8, eX6_mark_9, eX6_mark_12, Nat.add_zero, Nat.reduceAdd, Nat.reduceLeDiff, Nat.zero_le, and_true, o_aload_0r, o_callV_2, o_getf_e, o_iload_1, o_iload_2, o_iret_e, tl_n, tl_s, true_and, xwt_0, xwt_f, xwt_i, xwt_l, xwt_r, h.g0, h.w0, h.lc]
  refine g_mark h.L h.O.1 (fun A F G => ?_)
  simp only [eX6_mark_0, eX6_mark_1, eX6_mark_4, eX6_mark_7, eX6_mark_8, eX6_mark_9, eX6_mark_12, Nat.add_zero, Nat.reduceAdd, Nat.reduceLeDiff, Nat.zero_le, and_true, o_aload_0r, o_callV_2, o_getf_e, o_iload_1, o_iload_2, o_iret_e, tl_n, tl_s, true_and, xwt_0, xwt_f, xwt_i, xwt_l, xwt_r]
  exact k A (F.wd (by omega) (by omega)) (h.upL F G (sMark_ok h.O.1))
theorem q_pin (h : CAt AH o S) {a b : Int32} {Q : Option Value → xH → Prop} (k : ∀ A, Fr AH A o (o + 57) → CAt A o (S.wx (S.x.sPin a b).2) → Q (some (.int (S.x.sPin a b).1)) A) : XC MX6_pin [.ref o, .int a, .int b] AH Q := by
  refine XC.ofR (L := [some (.ref o), some (.int a), some (.int b)]) KX6_pin (by decide +kernel) (by first | decide | exact Nat.le_of_ble_eq_true rfl) rfl ?_
  simp only [eX6_pin_0, eX6_pin_1, eX6_pin_4, eX6_pin_7, eX6_pin_8, eX6_pin_9, eX6_pin_12, Nat.add_zero, Nat.reduceAdd, Nat.reduceLeDiff, Nat.zero_le, and_true, o_aload_0r, o_callV_2, o_getf_e, o_iload_1, o_iload_2, o_iret_e, tl_n, tl_s, true_and, xwt_0, xwt_f, xwt_i, xwt_l, xwt_r, h.g0, h.w0, h.lc]
  refine g_pin h.L h.O.1 (fun A F G => ?_)
  simp only [eX6_pin_0, eX6_pin_1, eX6_pin_4, eX6_pin_7, eX6_pin_8, eX6_pin_9, eX6_pin_12, Nat.add_zero, Nat.reduceAdd, Nat.reduceLeDiff, Nat.zero_le, and_true, o_aload_0r, o_callV_2, o_getf_e, o_iload_1, o_iload_2, o_iret_e, tl_n, tl_s, true_and, xwt_0, xwt_f, xwt_i, xwt_l, xwt_r]
  exact k A (F.wd (by omega) (by omega)) (h.upL F G (sPin_ok h.O.1))
theorem q_set (h : CAt AH o S) {a b : Int32} {Q : Option Value → xH → Prop} (k : ∀ A, Fr AH A o (o + 57) → CAt A o (S.wx (S.x.sSet a b).2) → Q (some (.int (S.x.sSet a b).1)) A) : XC MX6_set [.ref o, .int a, .int b] AH Q := by
  refine XC.ofR (L := [some (.ref o), some (.int a), some (.int b)]) KX6_set (by decide +kernel) (by first | decide | exact Nat.le_of_ble_eq_true rfl) rfl ?_
  simp only [eX6_set_0, eX6_set_1, eX6_set_4, eX6_set_7, eX6_set_8, eX6_set_9, eX6_set_12, Nat.add_zero, Nat.reduceAdd, Nat.reduceLeDiff, Nat.zero_le, and_true, o_aload_0r, o_callV_2, o_getf_e, o_iload_1, o_iload_2, o_iret_e, tl_n, tl_s, true_and, xwt_0, xwt_f, xwt_i, xwt_l, xwt_r, h.g0, h.w0, h.lc]
  refine g_set h.L h.O.1 (fun A F G => ?_)
  simp only [eX6_set_0, eX6_set_1, eX6_set_4, eX6_set_7, eX6_set_8, eX6_set_9, eX6_set_12, Nat.add_zero, Nat.reduceAdd, Nat.reduceLeDiff, Nat.zero_le, and_true, o_aload_0r, o_callV_2, o_getf_e, o_iload_1, o_iload_2, o_iret_e, tl_n, tl_s, true_and, xwt_0, xwt_f, xwt_i, xwt_l, xwt_r]
  exact k A (F.wd (by omega) (by omega)) (h.upL F G (sSet_ok h.O.1))
theorem q_price (h : CAt AH o S) {a b : Int32} {Q : Option Value → xH → Prop} (k : ∀ A, Fr AH A o (o + 57) → CAt A o (S.wx (S.x.sPrice a b).2) → Q (some (.int (S.x.sPrice a b).1)) A) : XC MX6_price [.ref o, .int a, .int b] AH Q := by
  refine XC.ofR (L := [some (.ref o), some (.int a), some (.int b)]) KX6_price (by decide +kernel) (by first | decide | exact Nat.le_of_ble_eq_true rfl) rfl ?_
  simp only [eX6_price_0, eX6_price_1, eX6_price_4, eX6_price_7, eX6_price_8, eX6_price_9, eX6_price_12, Nat.add_zero, Nat.reduceAdd, Nat.reduceLeDiff, Nat.zero_le, and_true, o_aload_0r, o_callV_2, o_getf_e, o_iload_1, o_iload_2, o_iret_e, tl_n, tl_s, true_and, xwt_0, xwt_f, xwt_i, xwt_l, xwt_r, h.g0, h.w0, h.lc]
  refine g_price h.L h.O.1 (fun A F G => ?_)
  simp only [eX6_price_0, eX6_price_1, eX6_price_4, eX6_price_7, eX6_price_8, eX6_price_9, eX6_price_12, Nat.add_zero, Nat.reduceAdd, Nat.reduceLeDiff, Nat.zero_le, and_true, o_aload_0r, o_callV_2, o_getf_e, o_iload_1, o_iload_2, o_iret_e, tl_n, tl_s, true_and, xwt_0, xwt_f, xwt_i, xwt_l, xwt_r]
  exact k A (F.wd (by omega) (by omega)) (h.upL F G (sPrice_ok h.O.1))
theorem q_seed (h : CAt AH o S) {v : Int32} {Q : Option Value → xH → Prop} (k : ∀ A, Fr AH A o (o + 57) → CAt A o (S.wx (S.x.wse v)) → Q (some (.int S.x.se)) A) : XC MX6_seed [.ref o, .int v] AH Q := by
  obtain ⟨lk, pr, h1, h2, h3⟩ := h.L
  refine XC.ofR (L := [some (.ref o), some (.int v), none]) KX6_seed (by decide +kernel) (by first | decide | exact Nat.le_of_ble_eq_true rfl) rfl ?_
  simp only [eX6_seed_0, eX6_seed_1, eX6_seed_4, eX6_seed_7, eX6_seed_10, eX6_seed_11, eX6_seed_12, eX6_seed_15, eX6_seed_18, eX6_seed_19, eX6_seed_22, eX6_seed_23, o_aload_0r, o_getf_e, o_iload_1, o_iload_2, o_iret_e, o_ist_2, o_putf_e, true_and, xfit_a, xfit_i, xfit_l, xfit_o, xnlv_i, xnlv_n, xnlv_r, h.g0, h.w0, h1.g7, h1.p7]
  exact k _ (h1.F.wd (by omega) (by omega)) (h.upL h1.F (h1.G (sim_wse.lk h2) (sim_wse.pr h3)) (ok_wse h.O.1))
theorem q_change (h : CAt AH o S) {c v : Int32} {Q : Option Value → xH → Prop} (k : ∀ A, Fr AH A o (o + 57) → CAt A o (S.wx (S.x.aChg c v).2) → Q (some (.int (S.x.aChg c v).1)) A) : XC MX6_change [.ref o, .int c, .int v] AH Q := by
  have ok := h.O.1
  have hn := sLat.n36 ok
  unfold sLat.aChg at k
  refine XC.ofR (L := [some (.ref o), some (.int c), some (.int v)]) KX6_change (by decide +kernel) (by first | decide | exact Nat.le_of_ble_eq_true rfl) rfl ?_
  simp only [eX6_change_0, eX6_change_1, eX6_change_4, eX6_change_7, eX6_change_8, eX6_change_11, eX6_change_14, eX6_change_15, eX6_change_16, eX6_change_17, eX6_change_20, eX6_change_23, eX6_change_25, eX6_change_26, eX6_change_27, eX6_change_30, eX6_change_33, eX6_change_34, eX6_change_35, eX6_change_38, Nat.add_zero, Nat.reduceAdd, Nat.reduceLeDiff, Nat.zero_le, and_true, o_aload_0r, o_callS_1, o_callV_1, o_callV_2, o_const_e, o_getf_e, o_if_e, o_iload_1, o_iload_2, o_iret_e, tl_n, tl_s, true_and, xwt_0, xwt_f, xwt_i, xwt_l, xwt_r, h.g0, h.w0, h.lc]
  refine g_hasCell h.L ok ?_
  cases hc : ix S.x.n c with
  | none =>
    simp only [hc] at k
    simp only [eX6_change_0, eX6_change_1, eX6_change_4, eX6_change_7, eX6_change_8, eX6_change_11, eX6_change_14, eX6_change_15, eX6_change_16, eX6_change_17, eX6_change_20, eX6_change_23, eX6_change_25, eX6_change_26, eX6_change_27, eX6_change_30, eX6_change_33, eX6_change_34, eX6_change_35, eX6_change_38, Nat.add_zero, Nat.reduceAdd, Nat.reduceLeDiff, Nat.zero_le, and_true, o_aload_0r, o_callS_1, o_callV_1, o_callV_2, o_const_e, o_getf_e, o_if_e, o_iload_1, o_iload_2, o_iret_e, tl_n, tl_s, true_and, xwt_0, xwt_f, xwt_i, xwt_l, xwt_r, Option.isSome, not_true_eq_false, not_false_eq_true, true_implies, false_implies, and_true, true_and, implies_true, forall_const, ↓reduceIte, Bool.false_eq_true, i10, i10n]
    exact k AH (Fr.rf _ _ _) h
  | some j =>
    obtain ⟨hj, rfl⟩ := ix_s (by omega) hc
    simp only [eX6_change_0, eX6_change_1, eX6_change_4, eX6_change_7, eX6_change_8, eX6_change_11, eX6_change_14, eX6_change_15, eX6_change_16, eX6_change_17, eX6_change_20, eX6_change_23, eX6_change_25, eX6_change_26, eX6_change_27, eX6_change_30, eX6_change_33, eX6_change_34, eX6_change_35, eX6_change_38, Nat.add_zero, Nat.reduceAdd, Nat.reduceLeDiff, Nat.zero_le, and_true, o_aload_0r, o_callS_1, o_callV_1, o_callV_2, o_const_e, o_getf_e, o_if_e, o_iload_1, o_iload_2, o_iret_e, tl_n, tl_s, true_and, xwt_0, xwt_f, xwt_i, xwt_l, xwt_r, Option.isSome, not_true_eq_false, not_false_eq_true, true_implies, false_implies, and_true, true_and, implies_true, forall_const, ↓reduceIte, Bool.false_eq_true, i10, i10n]
    refine c_isMark ?_
    cases hv : ix 8 v with
    | none =>
      simp only [hc, hv] at k
      simp only [eX6_change_0, eX6_change_1, eX6_change_4, eX6_change_7, eX6_change_8, eX6_change_11, eX6_change_14, eX6_change_15, eX6_change_16, eX6_change_17, eX6_change_20, eX6_change_23, eX6_change_25, eX6_change_26, eX6_change_27, eX6_change_30, eX6_change_33, eX6_change_34, eX6_change_35, eX6_change_38, Nat.add_zero, Nat.reduceAdd, Nat.reduceLeDiff, Nat.zero_le, and_true, o_aload_0r, o_callS_1, o_callV_1, o_callV_2, o_const_e, o_getf_e, o_if_e, o_iload_1, o_iload_2, o_iret_e, tl_n, tl_s, true_and, xwt_0, xwt_f, xwt_i, xwt_l, xwt_r, Option.isSome, not_true_eq_false, not_false_eq_true, true_implies, false_implies, and_true, true_and, implies_true, forall_const, ↓reduceIte, Bool.false_eq_true, i10, i10n]
      exact k AH (Fr.rf _ _ _) h
    | some q =>
      obtain ⟨hq, rfl⟩ := ix_s (by omega) hv
      simp only [hc, hv] at k
      simp only [eX6_change_0, eX6_change_1, eX6_change_4, eX6_change_7, eX6_change_8, eX6_change_11, eX6_change_14, eX6_change_15, eX6_change_16, eX6_change_17, eX6_change_20, eX6_change_23, eX6_change_25, eX6_change_26, eX6_change_27, eX6_change_30, eX6_change_33, eX6_change_34, eX6_change_35, eX6_change_38, Nat.add_zero, Nat.reduceAdd, Nat.reduceLeDiff, Nat.zero_le, and_true, o_aload_0r, o_callS_1, o_callV_1, o_callV_2, o_const_e, o_getf_e, o_if_e, o_iload_1, o_iload_2, o_iret_e, tl_n, tl_s, true_and, xwt_0, xwt_f, xwt_i, xwt_l, xwt_r, Option.isSome, not_true_eq_false, not_false_eq_true, true_implies, false_implies, and_true, true_and, implies_true, forall_const, ↓reduceIte, Bool.false_eq_true, i10, i10n, h.g0, h.w0, h.lc]
      refine g_att h.L ok hj hq (fun A F G => ?_)
      simp only [eX6_change_0, eX6_change_1, eX6_change_4, eX6_change_7, eX6_change_8, eX6_change_11, eX6_change_14, eX6_change_15, eX6_change_16, eX6_change_17, eX6_change_20, eX6_change_23, eX6_change_25, eX6_change_26, eX6_change_27, eX6_change_30, eX6_change_33, eX6_change_34, eX6_change_35, eX6_change_38, Nat.add_zero, Nat.reduceAdd, Nat.reduceLeDiff, Nat.zero_le, and_true, o_aload_0r, o_callS_1, o_callV_1, o_callV_2, o_const_e, o_getf_e, o_if_e, o_iload_1, o_iload_2, o_iret_e, tl_n, tl_s, true_and, xwt_0, xwt_f, xwt_i, xwt_l, xwt_r]
      exact k A (F.wd (by omega) (by omega)) (h.upL F G (at1_ok ok (by omega) hq))
theorem q_tries (h : CAt AH o S) {v : Int32} {Q : Option Value → xH → Prop} (k : ∀ A, Fr AH A o (o + 57) → CAt A o (S.wx (S.x.aTri v).2) → Q (some (.int (S.x.aTri v).1)) A) : XC MX6_tries [.ref o, .int v] AH Q := by
  have ok := h.O.1
  unfold sLat.aTri at k
  refine XC.ofR (L := [some (.ref o), some (.int v)]) KX6_tries (by decide +kernel) (by first | decide | exact Nat.le_of_ble_eq_true rfl) rfl ?_
  simp only [eX6_tries_0, eX6_tries_1, eX6_tries_4, eX6_tries_5, eX6_tries_8, eX6_tries_11, eX6_tries_13, eX6_tries_14, eX6_tries_15, eX6_tries_18, eX6_tries_21, eX6_tries_22, eX6_tries_25, Nat.add_zero, Nat.reduceAdd, Nat.reduceLeDiff, Nat.zero_le, and_true, o_aload_0r, o_callV_1, o_const_e, o_getf_e, o_icmp_e, o_if_e, o_iload_1, o_iret_e, tl_n, tl_s, true_and, xwt_0, xwt_f, xwt_i, xwt_l, xwt_r, n200, h.g0, h.w0, h.lc]
  refine rngR (lo := 0) (hi := 200) (by decide) (by decide) (fun e => ?_) (fun j _ hj ev e => ?_)
  · simp only [e] at k
    exact k AH (Fr.rf _ _ _) h
  · simp only [e] at k
    subst ev
    refine g_tries h.L ok hj (fun A F G => ?_)
    simp only [eX6_tries_0, eX6_tries_1, eX6_tries_4, eX6_tries_5, eX6_tries_8, eX6_tries_11, eX6_tries_13, eX6_tries_14, eX6_tries_15, eX6_tries_18, eX6_tries_21, eX6_tries_22, eX6_tries_25, Nat.add_zero, Nat.reduceAdd, Nat.reduceLeDiff, Nat.zero_le, and_true, o_aload_0r, o_callV_1, o_const_e, o_getf_e, o_icmp_e, o_if_e, o_iload_1, o_iret_e, tl_n, tl_s, true_and, xwt_0, xwt_f, xwt_i, xwt_l, xwt_r]
    exact k A (F.wd (by omega) (by omega)) (h.upL F G (trN_ok ok j))
theorem q_cool (h : CAt AH o S) {v : Int32} {Q : Option Value → xH → Prop} (k : ∀ A, Fr AH A o (o + 57) → CAt A o (S.wx (S.x.aCoo v).2) → Q (some (.int (S.x.aCoo v).1)) A) : XC MX6_cool [.ref o, .int v] AH Q := by
  have ok := h.O.1
  unfold sLat.aCoo at k
  refine XC.ofR (L := [some (.ref o), some (.int v)]) KX6_cool (by decide +kernel) (by first | decide | exact Nat.le_of_ble_eq_true rfl) rfl ?_
  simp only [eX6_cool_0, eX6_cool_1, eX6_cool_4, eX6_cool_5, eX6_cool_7, eX6_cool_10, eX6_cool_12, eX6_cool_13, eX6_cool_14, eX6_cool_17, eX6_cool_20, eX6_cool_21, eX6_cool_24, Nat.add_zero, Nat.reduceAdd, Nat.reduceLeDiff, Nat.zero_le, and_true, o_aload_0r, o_callV_1, o_const_e, o_getf_e, o_icmp_e, o_if_e, o_iload_1, o_iret_e, tl_n, tl_s, true_and, xwt_0, xwt_f, xwt_i, xwt_l, xwt_r, n30, h.g0, h.w0, h.lc]
  refine rngR (lo := 0) (hi := 30) (by decide) (by decide) (fun e => ?_) (fun j _ hj ev e => ?_)
  · simp only [e] at k
    exact k AH (Fr.rf _ _ _) h
  · simp only [e] at k
    subst ev
    refine g_rounds h.L ok (by omega) (fun A F G => ?_)
    simp only [eX6_cool_0, eX6_cool_1, eX6_cool_4, eX6_cool_5, eX6_cool_7, eX6_cool_10, eX6_cool_12, eX6_cool_13, eX6_cool_14, eX6_cool_17, eX6_cool_20, eX6_cool_21, eX6_cool_24, Nat.add_zero, Nat.reduceAdd, Nat.reduceLeDiff, Nat.zero_le, and_true, o_aload_0r, o_callV_1, o_const_e, o_getf_e, o_icmp_e, o_if_e, o_iload_1, o_iret_e, tl_n, tl_s, true_and, xwt_0, xwt_f, xwt_i, xwt_l, xwt_r]
    exact k A (F.wd (by omega) (by omega)) (h.upL F G (coN_ok ok j))
theorem q_feed (h : CAt AH o S) {v : Int32} {Q : Option Value → xH → Prop} (k : ∀ A, Fr AH A o (o + 57) → CAt A o (S.wt (aFeed S.f S.n v).2.1 (aFeed S.f S.n v).2.2) → Q (some (.int (aFeed S.f S.n v).1)) A) : XC MX6_feed [.ref o, .int v] AH Q := by
  obtain ⟨g, h1, h2⟩ := h.2.2.2.2.2.1
  have hk := aFeed_ok h.O.2.2.2.1 h.O.2.2.2.2.1 (v := v)
  refine XC.ofR (L := [some (.ref o), some (.int v)]) KX6_feed (by decide +kernel) (by first | decide | exact Nat.le_of_ble_eq_true rfl) rfl ?_
  simp only [eX6_feed_0, eX6_feed_1, eX6_feed_4, eX6_feed_5, eX6_feed_8, Nat.add_zero, Nat.reduceAdd, Nat.reduceLeDiff, Nat.zero_le, and_true, o_aload_0r, o_callV_1, o_getf_e, o_iload_1, o_iret_e, tl_n, tl_s, true_and, xwt_0, xwt_f, xwt_i, xwt_l, xwt_r, h.g4, h.xc]
  refine c_txApp h1 h.O.2.2.2.1 h2 (fun g' hg' => ?_)
  simp only [eX6_feed_0, eX6_feed_1, eX6_feed_4, eX6_feed_5, eX6_feed_8, Nat.add_zero, Nat.reduceAdd, Nat.reduceLeDiff, Nat.zero_le, and_true, o_aload_0r, o_callV_1, o_getf_e, o_iload_1, o_iret_e, tl_n, tl_s, true_and, xwt_0, xwt_f, xwt_i, xwt_l, xwt_r]
  exact k _ (h1.F.wd (by omega) (by omega)) (h.upX h1.F ⟨g', h1.put _ _, hg'⟩ hk.1 hk.2)
theorem q_read (h : CAt AH o S) {Q : Option Value → xH → Prop} (k : ∀ A, Fr AH A o (o + 57) → CAt A o ((S.wx (S.x.aRead S.f S.n).2).wt S.f 0) → Q (some (.int (S.x.aRead S.f S.n).1)) A) : XC MX6_read [.ref o] AH Q := by
  have ok := h.O.1
  have oR := aRead_ok ok (f := S.f) (n := S.n)
  obtain ⟨g, h1, h2⟩ := h.2.2.2.2.2.1
  have hn := h.O.2.2.2.1
  have hf := h.O.2.2.2.2.1
  refine XC.ofR (L := [some (.ref o), none, none]) KX6_read (by decide +kernel) (by first | decide | exact Nat.le_of_ble_eq_true rfl) rfl ?_
  simp only [eX6_read_0, eX6_read_1, eX6_read_4, eX6_read_7, eX6_read_8, eX6_read_9, eX6_read_12, eX6_read_14, eX6_read_15, eX6_read_16, eX6_read_19, eX6_read_20, eX6_read_23, eX6_read_24, eX6_read_27, eX6_read_30, eX6_read_33, eX6_read_34, eX6_read_35, eX6_read_38, eX6_read_39, eX6_read_42, eX6_read_43, Nat.add_zero, Nat.reduceAdd, Nat.reduceLeDiff, Nat.zero_le, and_true, o_aload_0r, o_callV_0, o_callV_1, o_const_e, o_getf_e, o_goto_e, o_if_e, o_ii_e, o_iload_1, o_iload_2, o_iret_e, o_ist_1, o_ist_2, o_putf_e, tl_n, tl_s, true_and, xfit_a, xfit_i, xfit_l, xfit_o, xnlv_i, xnlv_n, xnlv_r, xwt_0, xwt_f, xwt_i, xwt_l, xwt_r, h.g4, h.xc]
  refine c_ff h1 hn h2 hf ?_
  unfold sLat.aRead at k oR
  cases hR : rdR S.f S.n 12 0 with
  | inl q =>
    simp only [hR] at k oR
    have hq := rdR_lt 12 0 (Nat.zero_le _) q hR
    have eL : (nI q < nI 0) = False := eq_false (nI_pos (by omega))
    simp only [eX6_read_0, eX6_read_1, eX6_read_4, eX6_read_7, eX6_read_8, eX6_read_9, eX6_read_12, eX6_read_14, eX6_read_15, eX6_read_16, eX6_read_19, eX6_read_20, eX6_read_23, eX6_read_24, eX6_read_27, eX6_read_30, eX6_read_33, eX6_read_34, eX6_read_35, eX6_read_38, eX6_read_39, eX6_read_42, eX6_read_43, Nat.add_zero, Nat.reduceAdd, Nat.reduceLeDiff, Nat.zero_le, and_true, o_aload_0r, o_callV_0, o_callV_1, o_const_e, o_getf_e, o_goto_e, o_if_e, o_ii_e, o_iload_1, o_iload_2, o_iret_e, o_ist_1, o_ist_2, o_putf_e, tl_n, tl_s, true_and, xfit_a, xfit_i, xfit_l, xfit_o, xnlv_i, xnlv_n, xnlv_r, xwt_0, xwt_f, xwt_i, xwt_l, xwt_r, rdV, lt0_nI (a := q) (by omega), eL, not_true_eq_false, not_false_eq_true, true_implies, false_implies, and_true, true_and, implies_true, forall_const, ↓reduceIte, Bool.false_eq_true, i10, i10n, h.g4, z_nI, h1.p1]
    exact k _ (h1.F.wd (by omega) (by omega)) (h.upX h1.F ⟨g, h1.put _ _, fun i hi => by omega⟩ (by omega) hf)
  | inr N =>
    simp only [hR] at k oR
    have e5 : ((-5 : Int32) < 0) = True := eq_true (by decide)
    simp only [eX6_read_0, eX6_read_1, eX6_read_4, eX6_read_7, eX6_read_8, eX6_read_9, eX6_read_12, eX6_read_14, eX6_read_15, eX6_read_16, eX6_read_19, eX6_read_20, eX6_read_23, eX6_read_24, eX6_read_27, eX6_read_30, eX6_read_33, eX6_read_34, eX6_read_35, eX6_read_38, eX6_read_39, eX6_read_42, eX6_read_43, Nat.add_zero, Nat.reduceAdd, Nat.reduceLeDiff, Nat.zero_le, and_true, o_aload_0r, o_callV_0, o_callV_1, o_const_e, o_getf_e, o_goto_e, o_if_e, o_ii_e, o_iload_1, o_iload_2, o_iret_e, o_ist_1, o_ist_2, o_putf_e, tl_n, tl_s, true_and, xfit_a, xfit_i, xfit_l, xfit_o, xnlv_i, xnlv_n, xnlv_r, xwt_0, xwt_f, xwt_i, xwt_l, xwt_r, rdV, e5, not_true_eq_false, not_false_eq_true, true_implies, false_implies, and_true, true_and, implies_true, forall_const, ↓reduceIte, Bool.false_eq_true, i10, i10n, h.g4, h.g0, h.w0, h.xc]
    refine c_co h1 hn h2 hf h.L (by omega) ok hR (fun A F G => ?_)
    have hA := h.upL F G oR
    obtain ⟨g2, h3, h4⟩ := hA.2.2.2.2.2.1
    simp only [eX6_read_0, eX6_read_1, eX6_read_4, eX6_read_7, eX6_read_8, eX6_read_9, eX6_read_12, eX6_read_14, eX6_read_15, eX6_read_16, eX6_read_19, eX6_read_20, eX6_read_23, eX6_read_24, eX6_read_27, eX6_read_30, eX6_read_33, eX6_read_34, eX6_read_35, eX6_read_38, eX6_read_39, eX6_read_42, eX6_read_43, Nat.add_zero, Nat.reduceAdd, Nat.reduceLeDiff, Nat.zero_le, and_true, o_aload_0r, o_callV_0, o_callV_1, o_const_e, o_getf_e, o_goto_e, o_if_e, o_ii_e, o_iload_1, o_iload_2, o_iret_e, o_ist_1, o_ist_2, o_putf_e, tl_n, tl_s, true_and, xfit_a, xfit_i, xfit_l, xfit_o, xnlv_i, xnlv_n, xnlv_r, xwt_0, xwt_f, xwt_i, xwt_l, xwt_r, hA.g4, z_nI, h3.p1]
    exact k _ (F.tr h3.F (by omega) (by omega) (by omega) (by omega)) (hA.upX h3.F ⟨g2, h3.put _ _, fun i hi => by omega⟩ (by omega) hf)
end PUBA
