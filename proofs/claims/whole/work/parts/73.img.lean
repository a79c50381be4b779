/-! the image -/
def sCls.wim (S : sCls) (z : Option (sLat × sRw)) : sCls := (S.x, S.p, z, S.T, S.f, S.n)
def sCls.wxp (S : sCls) (y : sLat) (q : sRw) : sCls := (y, q, S.im, S.T, S.f, S.n)
def sCls.aUndo (S : sCls) : Int32 × sCls := match S.im with
  | none => (-3, S)
  | some z => (nI z.1.B, S.wxp z.1 z.2)
section IMG
variable {A B AH : xH} {o b b2 : Nat} {S : sCls} {x y : sLat} {p q : sRw}
theorem g_rowT {cap : Nat} {r u : sPr} (h : RowG AH b cap r) (h2 : RowG AH b2 cap u) (sep : b + 3 ≤ b2 ∨ b2 + 3 ≤ b) (hn : u.2 ≤ cap) (hm : cap < 1000) {Q : Option Value → xH → Prop} (k : ∀ A, Fr AH A b (b + 3) → RowG A b cap u → Q none A) : XC MX2_takeFrom [.ref b, .ref b2] AH Q := by
  obtain ⟨f, g, a1, a2⟩ := h
  obtain ⟨f2, g2, c1, c2⟩ := h2
  exact c_rowT a1 c1 sep c2 hn hm (fun f' g' e => k _ a1.F ⟨f', g', a1.put _ _ _, e⟩)
theorem RowG.cls {cap : Nat} {r : sPr} (h : RowG AH b cap r) : xcls AH b 2 = True := by
  obtain ⟨f, g, a1, a2⟩ := h
  exact a1.cls
theorem WorAt.g0 (h : WorAt A b x p) {K : Value → Prop} : xgf A b 5 0 K = K (.ref (b + 1)) := xgf_of h.1 rfl
theorem WorAt.g1 (h : WorAt A b x p) {K : Value → Prop} : xgf A b 5 1 K = K (.ref (b + 6)) := xgf_of h.1 rfl
theorem WorAt.g2 (h : WorAt A b x p) {K : Value → Prop} : xgf A b 5 2 K = K (.ref (b + 9)) := xgf_of h.1 rfl
theorem WorAt.g3 (h : WorAt A b x p) {K : Value → Prop} : xgf A b 5 3 K = K (.ref (b + 12)) := xgf_of h.1 rfl
/-- World.takeFrom(other) -/
theorem c_worT (h : WorAt AH b x p) (h2 : WorAt AH b2 y q) (sep : b + 15 ≤ b2 ∨ b2 + 15 ≤ b) (ox : x.ok) (oy : y.ok) (oq : q.ok) {Q : Option Value → xH → Prop} (k : ∀ A, Fr AH A b (b + 15) → WorAt A b y q → Q none A) : XC MX5_takeFrom [.ref b, .ref b2] AH Q := by
  refine XC.ofR (L := [some (.ref b), some (.ref b2)]) KX5_takeFrom (by decide +kernel) (by first | decide | exact Nat.le_of_ble_eq_true rfl) rfl ?_
  simp only [eX5_takeFrom_0, eX5_takeFrom_1, eX5_takeFrom_4, eX5_takeFrom_5, eX5_takeFrom_8, eX5_takeFrom_11, eX5_takeFrom_12, eX5_takeFrom_15, eX5_takeFrom_16, eX5_takeFrom_19, eX5_takeFrom_22, eX5_takeFrom_23, eX5_takeFrom_26, eX5_takeFrom_27, eX5_takeFrom_30, eX5_takeFrom_33, eX5_takeFrom_34, eX5_takeFrom_37, eX5_takeFrom_38, eX5_takeFrom_41, eX5_takeFrom_44, Nat.add_zero, Nat.reduceAdd, Nat.reduceLeDiff, Nat.zero_le, and_true, o_aload_0r, o_aload_1r, o_callV_1, o_getf_e, o_vret_e, tl_n, tl_s, true_and, xwt_0, xwt_f, xwt_i, xwt_l, xwt_r, h.g0, h2.g0, h.2.1.cls]
  refine g_take h.2.1 h2.2.1 (by omega) ox oy (fun A1 F1 G1 => ?_)
  have s1 := h2.fr F1 (by omega)
  have t1 : WorAt A1 b y p := ⟨by rw [F1.2 _ (by omega)]; exact h.1, G1, h.2.2.1.fr F1 (by omega), h.2.2.2.1.fr F1 (by omega), h.2.2.2.2.fr F1 (by omega)⟩
  simp only [eX5_takeFrom_0, eX5_takeFrom_1, eX5_takeFrom_4, eX5_takeFrom_5, eX5_takeFrom_8, eX5_takeFrom_11, eX5_takeFrom_12, eX5_takeFrom_15, eX5_takeFrom_16, eX5_takeFrom_19, eX5_takeFrom_22, eX5_takeFrom_23, eX5_takeFrom_26, eX5_takeFrom_27, eX5_takeFrom_30, eX5_takeFrom_33, eX5_takeFrom_34, eX5_takeFrom_37, eX5_takeFrom_38, eX5_takeFrom_41, eX5_takeFrom_44, Nat.add_zero, Nat.reduceAdd, Nat.reduceLeDiff, Nat.zero_le, and_true, o_aload_0r, o_aload_1r, o_callV_1, o_getf_e, o_vret_e, tl_n, tl_s, true_and, xwt_0, xwt_f, xwt_i, xwt_l, xwt_r, t1.g1, s1.g1, t1.2.2.1.cls]
  refine g_rowT t1.2.2.1 s1.2.2.1 (by omega) oq.1.1 (by decide) (fun A2 F2 G2 => ?_)
  have s2 := s1.fr F2 (by omega)
  have t2 : WorAt A2 b y (q.S, p.E, p.K) := ⟨by rw [F2.2 _ (by omega)]; exact t1.1, t1.2.1.fr F2 (by omega), G2, t1.2.2.2.1.fr F2 (by omega), t1.2.2.2.2.fr F2 (by omega)⟩
  simp only [eX5_takeFrom_0, eX5_takeFrom_1, eX5_takeFrom_4, eX5_takeFrom_5, eX5_takeFrom_8, eX5_takeFrom_11, eX5_takeFrom_12, eX5_takeFrom_15, eX5_takeFrom_16, eX5_takeFrom_19, eX5_takeFrom_22, eX5_takeFrom_23, eX5_takeFrom_26, eX5_takeFrom_27, eX5_takeFrom_30, eX5_takeFrom_33, eX5_takeFrom_34, eX5_takeFrom_37, eX5_takeFrom_38, eX5_takeFrom_41, eX5_takeFrom_44, Nat.add_zero, Nat.reduceAdd, Nat.reduceLeDiff, Nat.zero_le, and_true, o_aload_0r, o_aload_1r, o_callV_1, o_getf_e, o_vret_e, tl_n, tl_s, true_and, xwt_0, xwt_f, xwt_i, xwt_l, xwt_r, t2.g2, s2.g2, t2.2.2.2.1.cls]
  refine g_rowT t2.2.2.2.1 s2.2.2.2.1 (by omega) oq.2.1.1 (by decide) (fun A3 F3 G3 => ?_)
  have s3 := s2.fr F3 (by omega)
  have t3 : WorAt A3 b y (q.S, q.E, p.K) := ⟨by rw [F3.2 _ (by omega)]; exact t2.1, t2.2.1.fr F3 (by omega), t2.2.2.1.fr F3 (by omega), G3, t2.2.2.2.2.fr F3 (by omega)⟩
  simp only [eX5_takeFrom_0, eX5_takeFrom_1, eX5_takeFrom_4, eX5_takeFrom_5, eX5_takeFrom_8, eX5_takeFrom_11, eX5_takeFrom_12, eX5_takeFrom_15, eX5_takeFrom_16, eX5_takeFrom_19, eX5_takeFrom_22, eX5_takeFrom_23, eX5_takeFrom_26, eX5_takeFrom_27, eX5_takeFrom_30, eX5_takeFrom_33, eX5_takeFrom_34, eX5_takeFrom_37, eX5_takeFrom_38, eX5_takeFrom_41, eX5_takeFrom_44, Nat.add_zero, Nat.reduceAdd, Nat.reduceLeDiff, Nat.zero_le, and_true, o_aload_0r, o_aload_1r, o_callV_1, o_getf_e, o_vret_e, tl_n, tl_s, true_and, xwt_0, xwt_f, xwt_i, xwt_l, xwt_r, t3.g3, s3.g3, t3.2.2.2.2.cls]
  refine g_rowT t3.2.2.2.2 s3.2.2.2.2 (by omega) oq.2.2.1 (by decide) (fun A4 F4 G4 => ?_)
  have t4 : WorAt A4 b y q := ⟨by rw [F4.2 _ (by omega)]; exact t3.1, t3.2.1.fr F4 (by omega), t3.2.2.1.fr F4 (by omega), t3.2.2.2.1.fr F4 (by omega), G4⟩
  simp only [eX5_takeFrom_0, eX5_takeFrom_1, eX5_takeFrom_4, eX5_takeFrom_5, eX5_takeFrom_8, eX5_takeFrom_11, eX5_takeFrom_12, eX5_takeFrom_15, eX5_takeFrom_16, eX5_takeFrom_19, eX5_takeFrom_22, eX5_takeFrom_23, eX5_takeFrom_26, eX5_takeFrom_27, eX5_takeFrom_30, eX5_takeFrom_33, eX5_takeFrom_34, eX5_takeFrom_37, eX5_takeFrom_38, eX5_takeFrom_41, eX5_takeFrom_44, Nat.add_zero, Nat.reduceAdd, Nat.reduceLeDiff, Nat.zero_le, and_true, o_aload_0r, o_aload_1r, o_callV_1, o_getf_e, o_vret_e, tl_n, tl_s, true_and, xwt_0, xwt_f, xwt_i, xwt_l, xwt_r]
  refine k A4 ?_ t4
  have e1 : Fr AH A2 b (b + 15) := F1.tr F2 (by omega) (by omega) (by omega) (by omega)
  have e2 : Fr AH A3 b (b + 15) := e1.tr F3 (by omega) (by omega) (by omega) (by omega)
  exact e2.tr F4 (by omega) (by omega) (by omega) (by omega)
theorem CAt.upW (h : CAt A o S) (F : Fr A B (o + 1) (o + 1 + 15)) (G : WorAt B (o + 1) y q) (oy : y.ok) (oq : q.ok) : CAt B o (S.wxp y q) := by
  obtain ⟨h0, h1, ⟨y1, q1, k1, k2⟩, ⟨z, h3, z3⟩, h4, h5, h6, h7, h8⟩ := h
  exact ⟨by rw [F.2 _ (by omega)]; exact h0, G, ⟨y1, q1, k1.fr F (by omega), k2⟩, ⟨z, h3.fr F (by omega), z3⟩, h4.fr F (by omega), h5.fr F (by omega), by rw [F.2 _ (by omega)]; exact h6, fun t ht => (h7 t ht).fr F (by omega), oy, oq, h8.2.2⟩
theorem CAt.upI (h : CAt A o S) (F : Fr A B (o + 16) (o + 16 + 15)) (G : WorAt B (o + 16) S.x S.p) {K : xH → Prop} (k : ∀ C, Fr A C o (o + 57) → CAt C o (S.wim (some (S.x, S.p))) → K C) : xpf B o 6 6 (.int 1) K := by
  obtain ⟨h0, h1, ⟨y1, q1, k1, k2⟩, ⟨z, h3, z3⟩, h4, h5, h6, h7, h8⟩ := h
  have b0 : B[o]? = some (.inr (6, [.ref (o + 1), .ref (o + 16), .ref (o + 31), .ref (o + 36), .ref (o + 42), .ref (o + 44), .int (imB S.im)])) := by rw [F.2 _ (by omega)]; exact h0
  rw [xpf_of b0 (by show 6 < 7; decide)]
  have hl : o < B.length := (List.getElem?_eq_some_iff.mp b0).1
  have F2 : Fr B (B.set o (.inr (6, [Value.ref (o + 1), .ref (o + 16), .ref (o + 31), .ref (o + 36), .ref (o + 42), .ref (o + 44), .int (imB S.im)].set 6 (.int 1)))) o (o + 1) := Fr.set
  have F3 := F.tr F2 (lo3 := o) (hi3 := o + 57) (by omega) (by omega) (by omega) (by omega)
  refine k _ F3 ⟨?_, (h1.fr F (by omega)).fr F2 (by omega), ⟨S.x, S.p, G.fr F2 (by omega), h8.1, h8.2.1, fun z hz => by cases hz; rfl⟩, ⟨z, (h3.fr F (by omega)).fr F2 (by omega), z3⟩, (h4.fr F (by omega)).fr F2 (by omega), (h5.fr F (by omega)).fr F2 (by omega), ?_, fun t ht => ((h7 t ht).fr F (by omega)).fr F2 (by omega), h8.1, h8.2.1, h8.2.2.1, h8.2.2.2.1, h8.2.2.2.2.1, fun z hz => by cases hz; exact ⟨h8.1, h8.2.1⟩⟩
  · rw [List.getElem?_set, if_pos rfl, if_pos hl]
    rfl
  · rw [F2.2 _ (by omega), F.2 _ (by omega)]
    exact h6
theorem q_image (h : CAt AH o S) {Q : Option Value → xH → Prop} (k : ∀ A, Fr AH A o (o + 57) → CAt A o (S.wim (some (S.x, S.p))) → Q (some (.int (nI S.x.B))) A) : XC MX6_image [.ref o] AH Q := by
  obtain ⟨y1, q1, k1, k2, k3, k4⟩ := h.2.2.1
  refine XC.ofR (L := [some (.ref o)]) KX6_image (by decide +kernel) (by first | decide | exact Nat.le_of_ble_eq_true rfl) rfl ?_
  simp only [eX6_image_0, eX6_image_1, eX6_image_4, eX6_image_5, eX6_image_8, eX6_image_11, eX6_image_12, eX6_image_13, eX6_image_16, eX6_image_17, eX6_image_20, eX6_image_23, eX6_image_26, Nat.add_zero, Nat.reduceAdd, Nat.reduceLeDiff, Nat.zero_le, and_true, o_aload_0r, o_callV_0, o_callV_1, o_const_e, o_getf_e, o_iret_e, o_putf_e, tl_n, tl_s, true_and, xfit_a, xfit_i, xfit_l, xfit_o, xwt_0, xwt_f, xwt_i, xwt_l, xwt_r, h.g1, h.g0, h.kc]
  refine c_worT k1 h.2.1 (by omega) k2 h.O.1 h.O.2.1 (fun A F G => ?_)
  simp only [eX6_image_0, eX6_image_1, eX6_image_4, eX6_image_5, eX6_image_8, eX6_image_11, eX6_image_12, eX6_image_13, eX6_image_16, eX6_image_17, eX6_image_20, eX6_image_23, eX6_image_26, Nat.add_zero, Nat.reduceAdd, Nat.reduceLeDiff, Nat.zero_le, and_true, o_aload_0r, o_callV_0, o_callV_1, o_const_e, o_getf_e, o_iret_e, o_putf_e, tl_n, tl_s, true_and, xfit_a, xfit_i, xfit_l, xfit_o, xwt_0, xwt_f, xwt_i, xwt_l, xwt_r, xfit_z, eq_self, or_true, true_and]
  refine h.upI F G (fun C F2 hC => ?_)
  simp only [eX6_image_0, eX6_image_1, eX6_image_4, eX6_image_5, eX6_image_8, eX6_image_11, eX6_image_12, eX6_image_13, eX6_image_16, eX6_image_17, eX6_image_20, eX6_image_23, eX6_image_26, Nat.add_zero, Nat.reduceAdd, Nat.reduceLeDiff, Nat.zero_le, and_true, o_aload_0r, o_callV_0, o_callV_1, o_const_e, o_getf_e, o_iret_e, o_putf_e, tl_n, tl_s, true_and, xfit_a, xfit_i, xfit_l, xfit_o, xwt_0, xwt_f, xwt_i, xwt_l, xwt_r, hC.g0, hC.w0, hC.lc]
  refine g_border hC.L h.O.1 ?_
  simp only [eX6_image_0, eX6_image_1, eX6_image_4, eX6_image_5, eX6_image_8, eX6_image_11, eX6_image_12, eX6_image_13, eX6_image_16, eX6_image_17, eX6_image_20, eX6_image_23, eX6_image_26, Nat.add_zero, Nat.reduceAdd, Nat.reduceLeDiff, Nat.zero_le, and_true, o_aload_0r, o_callV_0, o_callV_1, o_const_e, o_getf_e, o_iret_e, o_putf_e, tl_n, tl_s, true_and, xfit_a, xfit_i, xfit_l, xfit_o, xwt_0, xwt_f, xwt_i, xwt_l, xwt_r]
  exact k C F2 hC
theorem q_undo (h : CAt AH o S) {Q : Option Value → xH → Prop} (k : ∀ A, Fr AH A o (o + 57) → CAt A o S.aUndo.2 → Q (some (.int S.aUndo.1)) A) : XC MX6_undo [.ref o] AH Q := by
  obtain ⟨y1, q1, k1, k2, k3, k4⟩ := h.2.2.1
  unfold sCls.aUndo at k
  refine XC.ofR (L := [some (.ref o)]) KX6_undo (by decide +kernel) (by first | decide | exact Nat.le_of_ble_eq_true rfl) rfl ?_
  cases hi : S.im with
  | none =>
    simp only [hi] at k
    have e1 : imB S.im = 0 := by rw [hi]; rfl
    simp only [eX6_undo_0, eX6_undo_1, eX6_undo_4, eX6_undo_7, eX6_undo_9, eX6_undo_10, eX6_undo_11, eX6_undo_14, eX6_undo_15, eX6_undo_18, eX6_undo_21, eX6_undo_22, eX6_undo_25, eX6_undo_28, eX6_undo_31, Nat.add_zero, Nat.reduceAdd, Nat.reduceLeDiff, Nat.zero_le, and_true, o_aload_0r, o_callV_0, o_callV_1, o_const_e, o_getf_e, o_if_e, o_iret_e, tl_n, tl_s, true_and, xwt_0, xwt_f, xwt_i, xwt_l, xwt_r, h.g6, e1, eq_self, not_true_eq_false, not_false_eq_true, true_implies, false_implies, and_true, true_and, implies_true, forall_const, ↓reduceIte, Bool.false_eq_true, i10, i10n]
    exact k AH (Fr.rf _ _ _) h
  | some z =>
    simp only [hi] at k
    have e1 : imB S.im = 1 := by rw [hi]; rfl
    have ez := k4 z hi
    subst ez
    simp only [eX6_undo_0, eX6_undo_1, eX6_undo_4, eX6_undo_7, eX6_undo_9, eX6_undo_10, eX6_undo_11, eX6_undo_14, eX6_undo_15, eX6_undo_18, eX6_undo_21, eX6_undo_22, eX6_undo_25, eX6_undo_28, eX6_undo_31, Nat.add_zero, Nat.reduceAdd, Nat.reduceLeDiff, Nat.zero_le, and_true, o_aload_0r, o_callV_0, o_callV_1, o_const_e, o_getf_e, o_if_e, o_iret_e, tl_n, tl_s, true_and, xwt_0, xwt_f, xwt_i, xwt_l, xwt_r, h.g6, e1, not_true_eq_false, not_false_eq_true, true_implies, false_implies, and_true, true_and, implies_true, forall_const, ↓reduceIte, Bool.false_eq_true, i10, i10n, h.g0, h.g1, h.wc]
    refine c_worT h.2.1 k1 (by omega) h.O.1 k2 k3 (fun A F G => ?_)
    have hA := h.upW F G k2 k3
    simp only [eX6_undo_0, eX6_undo_1, eX6_undo_4, eX6_undo_7, eX6_undo_9, eX6_undo_10, eX6_undo_11, eX6_undo_14, eX6_undo_15, eX6_undo_18, eX6_undo_21, eX6_undo_22, eX6_undo_25, eX6_undo_28, eX6_undo_31, Nat.add_zero, Nat.reduceAdd, Nat.reduceLeDiff, Nat.zero_le, and_true, o_aload_0r, o_callV_0, o_callV_1, o_const_e, o_getf_e, o_if_e, o_iret_e, tl_n, tl_s, true_and, xwt_0, xwt_f, xwt_i, xwt_l, xwt_r, hA.g0, hA.w0, hA.lc]
    refine g_border hA.L k2 ?_
    simp only [eX6_undo_0, eX6_undo_1, eX6_undo_4, eX6_undo_7, eX6_undo_9, eX6_undo_10, eX6_undo_11, eX6_undo_14, eX6_undo_15, eX6_undo_18, eX6_undo_21, eX6_undo_22, eX6_undo_25, eX6_undo_28, eX6_undo_31, Nat.add_zero, Nat.reduceAdd, Nat.reduceLeDiff, Nat.zero_le, and_true, o_aload_0r, o_callV_0, o_callV_1, o_const_e, o_getf_e, o_if_e, o_iret_e, tl_n, tl_s, true_and, xwt_0, xwt_f, xwt_i, xwt_l, xwt_r]
    exact k A (F.wd (by omega) (by omega)) hA
end IMG
