/-! new pieces -/
def Gr (AH A : xH) (b n : Nat) : Prop := A.length = b + n ∧ ∀ j, j < b → A[j]? = AH[j]?
theorem tl_of {AH : xH} {b : Nat} {e : xE} (hl : AH.length = b + 1) (hb : AH[b]? = some e) : ∃ A0 : xH, AH = A0 ++ [e] ∧ A0.length = b := by
  refine ⟨AH.take b, ?_, by rw [List.length_take]; omega⟩
  apply List.ext_getElem?
  intro j
  by_cases h : j < b
  · rw [List.getElem?_append_left (by rw [List.length_take]; omega), List.getElem?_take_of_lt h]
  · rw [List.getElem?_append_right (by rw [List.length_take]; omega)]
    by_cases h2 : j = b
    · subst h2
      rw [hb, List.length_take, show min j AH.length = j by omega, Nat.sub_self]
      rfl
    · rw [List.getElem?_eq_none (by omega), List.getElem?_eq_none (by rw [List.length_take]; show 1 ≤ _; omega)]
section TL
variable {A0 cs : xH} {e : xE} {ci kx : Nat} {fs : List Value} {v : Value}
theorem tl_0 : (A0 ++ e :: cs)[A0.length]? = some e := by
  rw [List.getElem?_append_right (Nat.le_refl _), Nat.sub_self]
  rfl
theorem xpf_hd {K : xH → Prop} (hv : kx < fs.length) : xpf (A0 ++ .inr (ci, fs) :: cs) A0.length ci kx v K = K (A0 ++ .inr (ci, fs.set kx v) :: cs) := by
  rw [xpf_of (fs := fs) tl_0 hv]
  congr 1
  rw [List.set_append_right _ _ (Nat.le_refl _), Nat.sub_self]
  rfl
theorem xcls_hd : xcls (A0 ++ .inr (ci, fs) :: cs) A0.length ci = True := xcls_of tl_0
theorem BlkAt.tl : BlkAt (A0 ++ cs) A0.length cs := fun i e hi => by
  rw [List.getElem?_append_right (by omega), Nat.add_sub_cancel_left]
  exact hi
theorem Gr.tl {n : Nat} (hn : cs.length = n) : Gr (A0 ++ [e]) (A0 ++ cs) A0.length n := ⟨by rw [List.length_append, hn], fun j hj => by rw [List.getElem?_append_left hj, List.getElem?_append_left hj]⟩
end TL
theorem nlt0 {a : Nat} (ha : a < 2 ^ 31) : (¬ nI a < 0) = True := eq_true (nI_pos ha)
def x0 : sLat := (fun _ => 0, fun _ => 0, 6, 6, 0, 0, 0, 0, 1, 1)
theorem x0_ok : x0.ok := ⟨fun _ => (by decide : 0 < 8), fun _ => (by decide : 0 < 2), (by decide : 2 ≤ 6 ∧ 6 ≤ 6), (by decide : 2 ≤ 6 ∧ 6 ≤ 6), (by decide : 0 ≤ 99), (by decide : 0 ≤ 2), (by decide : 0 ≤ 2), (by decide : 0 ≤ 3), (by decide : 1 ≤ 9), fun _ _ => rfl, fun _ _ => rfl⟩
section NEW
variable {AH : xH} {b : Nat}
theorem n_txt (hl : AH.length = b + 1) (hb : AH[b]? = some (.inr (3, [.null, .int 0]))) {Q : Option Value → xH → Prop} (k : ∀ A, Gr AH A b 2 → TxtG A b (fun _ => 0) 0 → Q none A) : XC MX3_init [.ref b] AH Q := by
  obtain ⟨A0, rfl, rfl⟩ := tl_of hl hb
  refine XC.ofR (L := [some (.ref A0.length)]) KX3_init (by decide +kernel) (by first | decide | exact Nat.le_of_ble_eq_true rfl) rfl ?_
  simp only [eX3_init_0, eX3_init_1, eX3_init_4, eX3_init_5, eX3_init_7, eX3_init_9, eX3_init_12, Nat.add_zero, Nat.reduceAdd, Nat.reduceLeDiff, Nat.zero_le, and_true, o_aload_0r, o_const_e, o_newi_e, o_objinit_e, o_putf_e, o_vret_e, true_and, xfit_a, xfit_i, xfit_l, xfit_o, xwt_0, xwt_f, xwt_i, xwt_l, xwt_r, List.append_assoc, List.cons_append, List.nil_append, List.length_append, List.length_cons, List.length_nil, Nat.zero_add, Nat.reduceAdd, Nat.reduceLT, Nat.reduceLeDiff, Nat.reducePow, nI_clamp, nlt0, lt0_nI, not_false_eq_true, true_and, xpf_hd, xcls_hd, List.set_cons_succ, List.set_cons_zero, List.set_nil, n100]
  exact k (A0 ++ txtC A0.length (fun _ => 0) 0) (Gr.tl rfl) ⟨fun _ => 0, BlkAt.tl, fun i hi => absurd hi (Nat.not_lt_zero i)⟩
theorem n_tap (hl : AH.length = b + 1) (hb : AH[b]? = some (.inr (4, [.null, .int 0, .int 0]))) {Q : Option Value → xH → Prop} (k : ∀ A, Gr AH A b 2 → TapG A b (-1) 0 (fun _ => 0) → Q none A) : XC MX4_init [.ref b] AH Q := by
  obtain ⟨A0, rfl, rfl⟩ := tl_of hl hb
  refine XC.ofR (L := [some (.ref A0.length)]) KX4_init (by decide +kernel) (by first | decide | exact Nat.le_of_ble_eq_true rfl) rfl ?_
  simp only [eX4_init_0, eX4_init_1, eX4_init_4, eX4_init_5, eX4_init_7, eX4_init_9, eX4_init_12, eX4_init_13, eX4_init_14, eX4_init_17, Nat.add_zero, Nat.reduceAdd, Nat.reduceLeDiff, Nat.zero_le, and_true, o_aload_0r, o_const_e, o_newl_e, o_objinit_e, o_putf_e, o_vret_e, true_and, xfit_a, xfit_i, xfit_l, xfit_o, xwt_0, xwt_f, xwt_i, xwt_l, xwt_r, List.append_assoc, List.cons_append, List.nil_append, List.length_append, List.length_cons, List.length_nil, Nat.zero_add, Nat.reduceAdd, Nat.reduceLT, Nat.reduceLeDiff, Nat.reducePow, nI_clamp, nlt0, lt0_nI, not_false_eq_true, true_and, xpf_hd, xcls_hd, List.set_cons_succ, List.set_cons_zero, List.set_nil, n60]
  exact k (A0 ++ tapC A0.length (-1) 0 (fun _ => 0)) (Gr.tl rfl) ⟨fun _ => 0, BlkAt.tl, fun i hi => rfl⟩
theorem n_gra (hl : AH.length = b + 1) (hb : AH[b]? = some (.inr (0, [.null, .null, .null, .null, .null, .int 0]))) {Q : Option Value → xH → Prop} (k : ∀ A, Gr AH A b 6 → GraG A b → Q none A) : XC MX0_init [.ref b] AH Q := by
  obtain ⟨A0, rfl, rfl⟩ := tl_of hl hb
  refine XC.ofR (L := [some (.ref A0.length)]) KX0_init (by decide +kernel) (by first | decide | exact Nat.le_of_ble_eq_true rfl) rfl ?_
  simp only [eX0_init_0, eX0_init_1, eX0_init_4, eX0_init_5, eX0_init_7, eX0_init_9, eX0_init_12, eX0_init_13, eX0_init_15, eX0_init_17, eX0_init_20, eX0_init_21, eX0_init_23, eX0_init_25, eX0_init_28, eX0_init_29, eX0_init_31, eX0_init_33, eX0_init_36, eX0_init_37, eX0_init_39, eX0_init_41, eX0_init_44, Nat.add_zero, Nat.reduceAdd, Nat.reduceLeDiff, Nat.zero_le, and_true, o_aload_0r, o_const_e, o_newi_e, o_newl_e, o_objinit_e, o_putf_e, o_vret_e, true_and, xfit_a, xfit_i, xfit_l, xfit_o, xwt_0, xwt_f, xwt_i, xwt_l, xwt_r, List.append_assoc, List.cons_append, List.nil_append, List.length_append, List.length_cons, List.length_nil, Nat.zero_add, Nat.reduceAdd, Nat.reduceLT, Nat.reduceLeDiff, Nat.reducePow, nI_clamp, nlt0, lt0_nI, not_false_eq_true, true_and, xpf_hd, xcls_hd, List.set_cons_succ, List.set_cons_zero, List.set_nil, n36]
  exact k (A0 ++ graC A0.length (fun _ => 0, fun _ => 0, fun _ => 0, fun _ => 0, fun _ => 0, 0)) (Gr.tl rfl) ⟨(fun _ => 0, fun _ => 0, fun _ => 0, fun _ => 0, fun _ => 0, 0), BlkAt.tl⟩
theorem n_row {cap : Nat} (hc : cap = 6 ∨ cap = 8) (hl : AH.length = b + 1) (hb : AH[b]? = some (.inr (2, [.null, .null, .int 0]))) {f0 : Nat → Nat × Nat} {Q : Option Value → xH → Prop} (k : ∀ A, Gr AH A b 3 → RowG A b cap (f0, 0) → Q none A) : XC MX2_init [.ref b, .int (nI cap)] AH Q := by
  obtain ⟨A0, rfl, rfl⟩ := tl_of hl hb
  refine XC.ofR (L := [some (.ref A0.length), some (.int (nI cap)), none]) KX2_init (by decide +kernel) (by first | decide | exact Nat.le_of_ble_eq_true rfl) rfl ?_
  simp only [eX2_init_0, eX2_init_1, eX2_init_4, eX2_init_5, eX2_init_6, eX2_init_9, eX2_init_10, eX2_init_11, eX2_init_12, eX2_init_14, eX2_init_17, eX2_init_18, eX2_init_19, eX2_init_21, eX2_init_24, Nat.add_zero, Nat.reduceAdd, Nat.reduceLeDiff, Nat.zero_le, and_true, o_aload_0r, o_callS_2, o_const_e, o_iload_1, o_iload_2, o_ist_2, o_newi_e, o_objinit_e, o_putf_e, o_vret_e, tl_n, tl_s, true_and, xfit_a, xfit_i, xfit_l, xfit_o, xnlv_i, xnlv_n, xnlv_r, xwt_0, xwt_f, xwt_i, xwt_l, xwt_r, List.append_assoc, List.cons_append, List.nil_append, List.length_append, List.length_cons, List.length_nil, Nat.zero_add, Nat.reduceAdd, Nat.reduceLT, Nat.reduceLeDiff, Nat.reducePow, nI_clamp, nlt0, lt0_nI, not_false_eq_true, true_and, xpf_hd, xcls_hd, List.set_cons_succ, List.set_cons_zero, List.set_nil]
  refine c_max ?_
  rcases hc with rfl | rfl
  · have e : (if nI 6 < 0 then 0 else nI 6) = nI 6 := if_neg (by decide)
    rw [e]
    simp only [eX2_init_0, eX2_init_1, eX2_init_4, eX2_init_5, eX2_init_6, eX2_init_9, eX2_init_10, eX2_init_11, eX2_init_12, eX2_init_14, eX2_init_17, eX2_init_18, eX2_init_19, eX2_init_21, eX2_init_24, Nat.add_zero, Nat.reduceAdd, Nat.reduceLeDiff, Nat.zero_le, and_true, o_aload_0r, o_callS_2, o_const_e, o_iload_1, o_iload_2, o_ist_2, o_newi_e, o_objinit_e, o_putf_e, o_vret_e, tl_n, tl_s, true_and, xfit_a, xfit_i, xfit_l, xfit_o, xnlv_i, xnlv_n, xnlv_r, xwt_0, xwt_f, xwt_i, xwt_l, xwt_r, List.append_assoc, List.cons_append, List.nil_append, List.length_append, List.length_cons, List.length_nil, Nat.zero_add, Nat.reduceAdd, Nat.reduceLT, Nat.reduceLeDiff, Nat.reducePow, nI_clamp, nlt0, lt0_nI, not_false_eq_true, true_and, xpf_hd, xcls_hd, List.set_cons_succ, List.set_cons_zero, List.set_nil]
    exact k (A0 ++ rowC A0.length 6 (fun _ => 0) (fun _ => 0) 0) (Gr.tl rfl) ⟨fun _ => 0, fun _ => 0, BlkAt.tl, fun i hi => absurd hi (Nat.not_lt_zero i)⟩
  · have e : (if nI 8 < 0 then 0 else nI 8) = nI 8 := if_neg (by decide)
    rw [e]
    simp only [eX2_init_0, eX2_init_1, eX2_init_4, eX2_init_5, eX2_init_6, eX2_init_9, eX2_init_10, eX2_init_11, eX2_init_12, eX2_init_14, eX2_init_17, eX2_init_18, eX2_init_19, eX2_init_21, eX2_init_24, Nat.add_zero, Nat.reduceAdd, Nat.reduceLeDiff, Nat.zero_le, and_true, o_aload_0r, o_callS_2, o_const_e, o_iload_1, o_iload_2, o_ist_2, o_newi_e, o_objinit_e, o_putf_e, o_vret_e, tl_n, tl_s, true_and, xfit_a, xfit_i, xfit_l, xfit_o, xnlv_i, xnlv_n, xnlv_r, xwt_0, xwt_f, xwt_i, xwt_l, xwt_r, List.append_assoc, List.cons_append, List.nil_append, List.length_append, List.length_cons, List.length_nil, Nat.zero_add, Nat.reduceAdd, Nat.reduceLT, Nat.reduceLeDiff, Nat.reducePow, nI_clamp, nlt0, lt0_nI, not_false_eq_true, true_and, xpf_hd, xcls_hd, List.set_cons_succ, List.set_cons_zero, List.set_nil]
    exact k (A0 ++ rowC A0.length 8 (fun _ => 0) (fun _ => 0) 0) (Gr.tl rfl) ⟨fun _ => 0, fun _ => 0, BlkAt.tl, fun i hi => absurd hi (Nat.not_lt_zero i)⟩
theorem n288 : (288 : Int32) = nI 288 := rfl
theorem n64 : (64 : Int32) = nI 64 := rfl
theorem n_lat (hl : AH.length = b + 1) (hb : AH[b]? = some (.inr (1, [.null, .null, .null, .null, .int 0, .int 0, .int 0, .int 0, .int 0, .int 0, .int 0, .int 0]))) {Q : Option Value → xH → Prop} (k : ∀ A, Gr AH A b 5 → LatG A b x0 → Q none A) : XC MX1_init [.ref b] AH Q := by
  obtain ⟨A0, rfl, rfl⟩ := tl_of hl hb
  refine XC.ofR (L := [some (.ref A0.length)]) KX1_init (by decide +kernel) (by first | decide | exact Nat.le_of_ble_eq_true rfl) rfl ?_
  simp only [eX1_init_0, eX1_init_1, eX1_init_4, eX1_init_5, eX1_init_7, eX1_init_9, eX1_init_12, eX1_init_13, eX1_init_15, eX1_init_17, eX1_init_20, eX1_init_21, eX1_init_24, eX1_init_26, eX1_init_29, eX1_init_30, eX1_init_32, eX1_init_34, eX1_init_37, eX1_init_38, eX1_init_40, eX1_init_43, eX1_init_44, eX1_init_46, eX1_init_49, eX1_init_50, eX1_init_51, eX1_init_54, eX1_init_55, eX1_init_56, eX1_init_59, eX1_init_60, eX1_init_61, eX1_init_64, eX1_init_65, eX1_init_66, eX1_init_69, eX1_init_70, eX1_init_71, eX1_init_74, eX1_init_75, eX1_init_78, eX1_init_79, eX1_init_82, Nat.add_zero, Nat.reduceAdd, Nat.reduceLeDiff, Nat.zero_le, and_true, o_aload_0r, o_callV_0, o_const_e, o_newi_e, o_objinit_e, o_putf_e, o_vret_e, tl_n, tl_s, true_and, xfit_a, xfit_i, xfit_l, xfit_o, xwt_0, xwt_f, xwt_i, xwt_l, xwt_r, List.append_assoc, List.cons_append, List.nil_append, List.length_append, List.length_cons, List.length_nil, Nat.zero_add, Nat.reduceAdd, Nat.reduceLT, Nat.reduceLeDiff, Nat.reducePow, nI_clamp, nlt0, lt0_nI, not_false_eq_true, true_and, xpf_hd, xcls_hd, List.set_cons_succ, List.set_cons_zero, List.set_nil, n36, n288, n64]
  have hB : BlkAt (A0 ++ [latO A0.length x0, cI 36 (fun i => nI (x0.mk i)), cI 36 (fun i => nI (x0.pn i)), cI 288 (fun _ => 0), cI 64 (fun _ => 0)]) A0.length [latO A0.length x0, cI 36 (fun i => nI (x0.mk i)), cI 36 (fun i => nI (x0.pn i)), cI 288 (fun _ => 0), cI 64 (fun _ => 0)] := BlkAt.tl
  have h : LatAt (A0 ++ [latO A0.length x0, cI 36 (fun i => nI (x0.mk i)), cI 36 (fun i => nI (x0.pn i)), cI 288 (fun _ => 0), cI 64 (fun _ => 0)]) A0.length x0 (fun _ => 0) (fun _ => 0) := ⟨hB 0 _ rfl, hB 1 _ rfl, hB 2 _ rfl, hB 3 _ rfl, hB 4 _ rfl⟩
  refine c_link h x0_ok (fun lk' hk => ?_)
  have h2 := h.put x0 lk' (fun _ => 0)
  simp only [eX1_init_0, eX1_init_1, eX1_init_4, eX1_init_5, eX1_init_7, eX1_init_9, eX1_init_12, eX1_init_13, eX1_init_15, eX1_init_17, eX1_init_20, eX1_init_21, eX1_init_24, eX1_init_26, eX1_init_29, eX1_init_30, eX1_init_32, eX1_init_34, eX1_init_37, eX1_init_38, eX1_init_40, eX1_init_43, eX1_init_44, eX1_init_46, eX1_init_49, eX1_init_50, eX1_init_51, eX1_init_54, eX1_init_55, eX1_init_56, eX1_init_59, eX1_init_60, eX1_init_61, eX1_init_64, eX1_init_65, eX1_init_66, eX1_init_69, eX1_init_70, eX1_init_71, eX1_init_74, eX1_init_75, eX1_init_78, eX1_init_79, eX1_init_82, Nat.add_zero, Nat.reduceAdd, Nat.reduceLeDiff, Nat.zero_le, and_true, o_aload_0r, o_callV_0, o_const_e, o_newi_e, o_objinit_e, o_putf_e, o_vret_e, tl_n, tl_s, true_and, xfit_a, xfit_i, xfit_l, xfit_o, xwt_0, xwt_f, xwt_i, xwt_l, xwt_r, h2.cls]
  refine c_prices h2 x0_ok (fun pr' hp => ?_)
  simp only [eX1_init_0, eX1_init_1, eX1_init_4, eX1_init_5, eX1_init_7, eX1_init_9, eX1_init_12, eX1_init_13, eX1_init_15, eX1_init_17, eX1_init_20, eX1_init_21, eX1_init_24, eX1_init_26, eX1_init_29, eX1_init_30, eX1_init_32, eX1_init_34, eX1_init_37, eX1_init_38, eX1_init_40, eX1_init_43, eX1_init_44, eX1_init_46, eX1_init_49, eX1_init_50, eX1_init_51, eX1_init_54, eX1_init_55, eX1_init_56, eX1_init_59, eX1_init_60, eX1_init_61, eX1_init_64, eX1_init_65, eX1_init_66, eX1_init_69, eX1_init_70, eX1_init_71, eX1_init_74, eX1_init_75, eX1_init_78, eX1_init_79, eX1_init_82, Nat.add_zero, Nat.reduceAdd, Nat.reduceLeDiff, Nat.zero_le, and_true, o_aload_0r, o_callV_0, o_const_e, o_newi_e, o_objinit_e, o_putf_e, o_vret_e, tl_n, tl_s, true_and, xfit_a, xfit_i, xfit_l, xfit_o, xwt_0, xwt_f, xwt_i, xwt_l, xwt_r]
  rw [latP_latP (by have := h.lt; omega)]
  have g := Gr.tl (A0 := A0) (e := .inr (1, [.null, .null, .null, .null, .int 0, .int 0, .int 0, .int 0, .int 0, .int 0, .int 0, .int 0])) (cs := [latO A0.length x0, cI 36 (fun i => nI (x0.mk i)), cI 36 (fun i => nI (x0.pn i)), cI 288 (fun _ => 0), cI 64 (fun _ => 0)]) (n := 5) rfl
  exact k _ ⟨by rw [latP_len]; exact g.1, fun j hj => by rw [h.out (by omega)]; exact g.2 j hj⟩ (h.G hk hp)
end NEW
