/-! the law from its entry on -/
theorem CAt.fw {A B : xH} {o : Nat} {S : sCls} (h : CAt A o S) (F : Fw A B o (o + 57)) : CAt B o S := by
  obtain ⟨h0, h1, ⟨y, q, k1, k2⟩, ⟨z, h3, z3⟩, h4, h5, h6, h7, h8⟩ := h
  exact ⟨by rw [F _ (by omega) (by omega)]; exact h0, h1.fw F (by omega) (by omega), ⟨y, q, k1.fw F (by omega) (by omega), k2⟩, ⟨z, h3.fw F (by omega) (by omega), z3⟩, h4.fw F (by omega) (by omega), h5.fw F (by omega) (by omega), by rw [F _ (by omega) (by omega)]; exact h6, fun t ht => (h7 t ht).fw F (by omega) (by omega), h8⟩
theorem rc6 : MX6_init.2.2.2.2.cells = 56 := rfl
theorem rs6 : MX6_init.2.2.2.2.slots = 2102 := rfl
theorem rc7 : MX7_init.2.2.2.2.cells = 15 := rfl
theorem rs7 : MX7_init.2.2.2.2.slots = 1043 := rfl
theorem law_XR {n : Nat} {xs : Nat → Int32} (hn : n ≤ 3072) {Q : xQ} (k : ∀ A c, Q (some (.int 1)) A c) : XR (TL_law (n, xs)) 0 [some (.float 5), none, none, none] [] [] (0, 0) Q := by
  simp only [eL_law_0, eL_law_3, eL_law_4, eL_law_7, eL_law_8, eL_law_11, eL_law_12, eL_law_15, eL_law_16, eL_law_17, Nat.add_zero, Nat.reduceAdd, Nat.reduceLeDiff, Nat.zero_le, and_true, o_ast_1r, o_ast_2r, o_callI_0, o_const_e, o_dup_e, o_ist_3, o_new_e, tl_n, tl_s, true_and, xc1_i, xc1_r, xnlv_i, xnlv_n, xnlv_r, xwt_0, xwt_f, xwt_i, xwt_l, xwt_r, rc6, rs6, List.append_assoc, List.cons_append, List.nil_append, List.length_append, List.length_cons, List.length_nil, Nat.zero_add, Nat.reduceAdd, Nat.reduceLT, Nat.reduceLeDiff, not_false_eq_true, true_and, xnlv_f]
  refine n_cls (o := 0) rfl rfl (fun A g hC => ?_)
  have e57 : A.length = 57 := g.1
  simp only [eL_law_0, eL_law_3, eL_law_4, eL_law_7, eL_law_8, eL_law_11, eL_law_12, eL_law_15, eL_law_16, eL_law_17, Nat.add_zero, Nat.reduceAdd, Nat.reduceLeDiff, Nat.zero_le, and_true, o_ast_1r, o_ast_2r, o_callI_0, o_const_e, o_dup_e, o_ist_3, o_new_e, tl_n, tl_s, true_and, xc1_i, xc1_r, xnlv_i, xnlv_n, xnlv_r, xwt_0, xwt_f, xwt_i, xwt_l, xwt_r, rc6, rs6, rc7, rs7, e57, List.append_assoc, List.cons_append, List.nil_append, List.length_append, List.length_cons, List.length_nil, Nat.zero_add, Nat.reduceAdd, Nat.reduceLT, Nat.reduceLeDiff, not_false_eq_true, true_and, xnlv_f]
  refine n_mod (m := 57) (ap_len e57) (ap_get e57) (fun B g2 hM => ?_)
  have hC2 : CAt B 0 S0 := hC.fw (fun j h1 h2 => by
    rw [g2.2 j (by omega), List.getElem?_append_left (by omega)])
  simp only [eL_law_0, eL_law_3, eL_law_4, eL_law_7, eL_law_8, eL_law_11, eL_law_12, eL_law_15, eL_law_16, eL_law_17, Nat.add_zero, Nat.reduceAdd, Nat.reduceLeDiff, Nat.zero_le, and_true, o_ast_1r, o_ast_2r, o_callI_0, o_const_e, o_dup_e, o_ist_3, o_new_e, tl_n, tl_s, true_and, xc1_i, xc1_r, xnlv_i, xnlv_n, xnlv_r, xwt_0, xwt_f, xwt_i, xwt_l, xwt_r, rc7, rs7, z_nI, List.append_assoc, List.cons_append, List.nil_append, List.length_append, List.length_cons, List.length_nil, Nat.zero_add, Nat.reduceAdd, Nat.reduceLT, Nat.reduceLeDiff, not_false_eq_true, true_and, xnlv_f]
  exact l_law hn (fun A => k A _) n 0 (by omega) (by omega) B S0 hC2 hM
/-! what the start gives -/
def sA (s : State) : Nat → Prop := fun q => s.heap.size ≤ q
theorem sA_n {s : State} : ∀ a : Nat, a < s.heap.size → ¬ sA s a := fun a h z => absurd h (Nat.not_lt.mpr z)
section STA
variable {b : Nat} {s : State}
theorem st_0 (hts : ∀ w ∈ lw_tbl, w.before #[Value.ref b] s = true) (hs : ∀ c ∈ flatC (Jvm.Cond.and given_1 narrow_1), c.before #[Value.ref b] s = true) : ∃ t : Nat, va_Z "GrainGrower$Lattice" "SIX_STEPS" "[I" (.ref t) (sA s) s s.heap ∧ va_T .int t 6 (fun j => .int (([0, 1, 2, 3, 4, 6] : List Int32).getD j 0)) (sA s) s s.heap := by
  have hel : ∀ j : Nat, j < 6 → (Term.elem (.static "GrainGrower$Lattice" "SIX_STEPS" "[I") (.int (Int32.ofNat j))).eval #[Value.ref b] s none [] s = some (.int (([0, 1, 2, 3, 4, 6] : List Int32).getD j 0)) := fun j hj => by
    rcases (show j = 0 ∨ j = 1 ∨ j = 2 ∨ j = 3 ∨ j = 4 ∨ j = 5 by omega) with rfl | rfl | rfl | rfl | rfl | rfl
    · exact va_eqt (hs (.eq (.elem (.static "GrainGrower$Lattice" "SIX_STEPS" "[I") (.int 0)) (.int 0)) (by decide +kernel))
    · exact va_eqt (hs (.eq (.elem (.static "GrainGrower$Lattice" "SIX_STEPS" "[I") (.int 1)) (.int 1)) (by decide +kernel))
    · exact va_eqt (hs (.eq (.elem (.static "GrainGrower$Lattice" "SIX_STEPS" "[I") (.int 2)) (.int 2)) (by decide +kernel))
    · exact va_eqt (hs (.eq (.elem (.static "GrainGrower$Lattice" "SIX_STEPS" "[I") (.int 3)) (.int 3)) (by decide +kernel))
    · exact va_eqt (hs (.eq (.elem (.static "GrainGrower$Lattice" "SIX_STEPS" "[I") (.int 4)) (.int 4)) (by decide +kernel))
    · exact va_eqt (hs (.eq (.elem (.static "GrainGrower$Lattice" "SIX_STEPS" "[I") (.int 5)) (.int 6)) (by decide +kernel))
  obtain ⟨t, h1, h2⟩ := va_Tof (tm := (.static "GrainGrower$Lattice" "SIX_STEPS" "[I")) (ty := .int) (N := 6) (f := fun j => .int (([0, 1, 2, 3, 4, 6] : List Int32).getD j 0)) (A := sA s) (by decide) (hs (.arrayOf (.static "GrainGrower$Lattice" "SIX_STEPS" "[I") .int) (by decide +kernel)) (va_eqt (hs (.eq (.length (.static "GrainGrower$Lattice" "SIX_STEPS" "[I")) (.int 6)) (by decide +kernel))) hel sA_n
  exact ⟨t, va_Zref (hts (.laysStatic "GrainGrower$Lattice" "SIX_STEPS" "[I") (List.mem_of_getElem? (i := 102) (by decide +kernel))) (hts (.initialized "GrainGrower$Lattice") (List.mem_of_getElem? (i := 59) (by decide +kernel))) h1 sA_n, h2⟩
theorem st_1 (hts : ∀ w ∈ lw_tbl, w.before #[Value.ref b] s = true) (hs : ∀ c ∈ flatC (Jvm.Cond.and given_1 narrow_1), c.before #[Value.ref b] s = true) : ∃ t : Nat, va_Z "GrainGrower$Lattice" "ROW_STEPS" "[I" (.ref t) (sA s) s s.heap ∧ va_T .int t 8 (fun j => .int (([(-1), 0, 1, 0, (-1), 1, 1, (-1)] : List Int32).getD j 0)) (sA s) s s.heap := by
  have hel : ∀ j : Nat, j < 8 → (Term.elem (.static "GrainGrower$Lattice" "ROW_STEPS" "[I") (.int (Int32.ofNat j))).eval #[Value.ref b] s none [] s = some (.int (([(-1), 0, 1, 0, (-1), 1, 1, (-1)] : List Int32).getD j 0)) := fun j hj => by
    rcases (show j = 0 ∨ j = 1 ∨ j = 2 ∨ j = 3 ∨ j = 4 ∨ j = 5 ∨ j = 6 ∨ j = 7 by omega) with rfl | rfl | rfl | rfl | rfl | rfl | rfl | rfl
    · exact va_eqt (hs (.eq (.elem (.static "GrainGrower$Lattice" "ROW_STEPS" "[I") (.int 0)) (.int (-1))) (by decide +kernel))
    · exact va_eqt (hs (.eq (.elem (.static "GrainGrower$Lattice" "ROW_STEPS" "[I") (.int 1)) (.int 0)) (by decide +kernel))
    · exact va_eqt (hs (.eq (.elem (.static "GrainGrower$Lattice" "ROW_STEPS" "[I") (.int 2)) (.int 1)) (by decide +kernel))
    · exact va_eqt (hs (.eq (.elem (.static "GrainGrower$Lattice" "ROW_STEPS" "[I") (.int 3)) (.int 0)) (by decide +kernel))
    · exact va_eqt (hs (.eq (.elem (.static "GrainGrower$Lattice" "ROW_STEPS" "[I") (.int 4)) (.int (-1))) (by decide +kernel))
    · exact va_eqt (hs (.eq (.elem (.static "GrainGrower$Lattice" "ROW_STEPS" "[I") (.int 5)) (.int 1)) (by decide +kernel))
    · exact va_eqt (hs (.eq (.elem (.static "GrainGrower$Lattice" "ROW_STEPS" "[I") (.int 6)) (.int 1)) (by decide +kernel))
    · exact va_eqt (hs (.eq (.elem (.static "GrainGrower$Lattice" "ROW_STEPS" "[I") (.int 7)) (.int (-1))) (by decide +kernel))
  obtain ⟨t, h1, h2⟩ := va_Tof (tm := (.static "GrainGrower$Lattice" "ROW_STEPS" "[I")) (ty := .int) (N := 8) (f := fun j => .int (([(-1), 0, 1, 0, (-1), 1, 1, (-1)] : List Int32).getD j 0)) (A := sA s) (by decide) (hs (.arrayOf (.static "GrainGrower$Lattice" "ROW_STEPS" "[I") .int) (by decide +kernel)) (va_eqt (hs (.eq (.length (.static "GrainGrower$Lattice" "ROW_STEPS" "[I")) (.int 8)) (by decide +kernel))) hel sA_n
  exact ⟨t, va_Zref (hts (.laysStatic "GrainGrower$Lattice" "ROW_STEPS" "[I") (List.mem_of_getElem? (i := 104) (by decide +kernel))) (hts (.initialized "GrainGrower$Lattice") (List.mem_of_getElem? (i := 59) (by decide +kernel))) h1 sA_n, h2⟩
theorem st_2 (hts : ∀ w ∈ lw_tbl, w.before #[Value.ref b] s = true) (hs : ∀ c ∈ flatC (Jvm.Cond.and given_1 narrow_1), c.before #[Value.ref b] s = true) : ∃ t : Nat, va_Z "GrainGrower$Lattice" "COLUMN_STEPS" "[I" (.ref t) (sA s) s s.heap ∧ va_T .int t 8 (fun j => .int (([0, 1, 0, (-1), 1, 1, (-1), (-1)] : List Int32).getD j 0)) (sA s) s s.heap := by
  have hel : ∀ j : Nat, j < 8 → (Term.elem (.static "GrainGrower$Lattice" "COLUMN_STEPS" "[I") (.int (Int32.ofNat j))).eval #[Value.ref b] s none [] s = some (.int (([0, 1, 0, (-1), 1, 1, (-1), (-1)] : List Int32).getD j 0)) := fun j hj => by
    rcases (show j = 0 ∨ j = 1 ∨ j = 2 ∨ j = 3 ∨ j = 4 ∨ j = 5 ∨ j = 6 ∨ j = 7 by omega) with rfl | rfl | rfl | rfl | rfl | rfl | rfl | rfl
    · exact va_eqt (hs (.eq (.elem (.static "GrainGrower$Lattice" "COLUMN_STEPS" "[I") (.int 0)) (.int 0)) (by decide +kernel))
    · exact va_eqt (hs (.eq (.elem (.static "GrainGrower$Lattice" "COLUMN_STEPS" "[I") (.int 1)) (.int 1)) (by decide +kernel))
    · exact va_eqt (hs (.eq (.elem (.static "GrainGrower$Lattice" "COLUMN_STEPS" "[I") (.int 2)) (.int 0)) (by decide +kernel))
    · exact va_eqt (hs (.eq (.elem (.static "GrainGrower$Lattice" "COLUMN_STEPS" "[I") (.int 3)) (.int (-1))) (by decide +kernel))
    · exact va_eqt (hs (.eq (.elem (.static "GrainGrower$Lattice" "COLUMN_STEPS" "[I") (.int 4)) (.int 1)) (by decide +kernel))
    · exact va_eqt (hs (.eq (.elem (.static "GrainGrower$Lattice" "COLUMN_STEPS" "[I") (.int 5)) (.int 1)) (by decide +kernel))
    · exact va_eqt (hs (.eq (.elem (.static "GrainGrower$Lattice" "COLUMN_STEPS" "[I") (.int 6)) (.int (-1))) (by decide +kernel))
    · exact va_eqt (hs (.eq (.elem (.static "GrainGrower$Lattice" "COLUMN_STEPS" "[I") (.int 7)) (.int (-1))) (by decide +kernel))
  obtain ⟨t, h1, h2⟩ := va_Tof (tm := (.static "GrainGrower$Lattice" "COLUMN_STEPS" "[I")) (ty := .int) (N := 8) (f := fun j => .int (([0, 1, 0, (-1), 1, 1, (-1), (-1)] : List Int32).getD j 0)) (A := sA s) (by decide) (hs (.arrayOf (.static "GrainGrower$Lattice" "COLUMN_STEPS" "[I") .int) (by decide +kernel)) (va_eqt (hs (.eq (.length (.static "GrainGrower$Lattice" "COLUMN_STEPS" "[I")) (.int 8)) (by decide +kernel))) hel sA_n
  exact ⟨t, va_Zref (hts (.laysStatic "GrainGrower$Lattice" "COLUMN_STEPS" "[I") (List.mem_of_getElem? (i := 106) (by decide +kernel))) (hts (.initialized "GrainGrower$Lattice") (List.mem_of_getElem? (i := 59) (by decide +kernel))) h1 sA_n, h2⟩
theorem st_3 (hts : ∀ w ∈ lw_tbl, w.before #[Value.ref b] s = true) (hs : ∀ c ∈ flatC (Jvm.Cond.and given_1 narrow_1), c.before #[Value.ref b] s = true) : ∃ t : Nat, va_Z "GrainGrowerModel" "DOWN" "[I" (.ref t) (sA s) s s.heap ∧ va_T .int t 10 (fun j => .int (([(-1), 0, 1, 0, (-1), 1, 1, (-1), (-1), 1] : List Int32).getD j 0)) (sA s) s s.heap := by
  have hel : ∀ j : Nat, j < 10 → (Term.elem (.static "GrainGrowerModel" "DOWN" "[I") (.int (Int32.ofNat j))).eval #[Value.ref b] s none [] s = some (.int (([(-1), 0, 1, 0, (-1), 1, 1, (-1), (-1), 1] : List Int32).getD j 0)) := fun j hj => by
    rcases (show j = 0 ∨ j = 1 ∨ j = 2 ∨ j = 3 ∨ j = 4 ∨ j = 5 ∨ j = 6 ∨ j = 7 ∨ j = 8 ∨ j = 9 by omega) with rfl | rfl | rfl | rfl | rfl | rfl | rfl | rfl | rfl | rfl
    · exact va_eqt (hs (.eq (.elem (.static "GrainGrowerModel" "DOWN" "[I") (.int 0)) (.int (-1))) (by decide +kernel))
    · exact va_eqt (hs (.eq (.elem (.static "GrainGrowerModel" "DOWN" "[I") (.int 1)) (.int 0)) (by decide +kernel))
    · exact va_eqt (hs (.eq (.elem (.static "GrainGrowerModel" "DOWN" "[I") (.int 2)) (.int 1)) (by decide +kernel))
    · exact va_eqt (hs (.eq (.elem (.static "GrainGrowerModel" "DOWN" "[I") (.int 3)) (.int 0)) (by decide +kernel))
    · exact va_eqt (hs (.eq (.elem (.static "GrainGrowerModel" "DOWN" "[I") (.int 4)) (.int (-1))) (by decide +kernel))
    · exact va_eqt (hs (.eq (.elem (.static "GrainGrowerModel" "DOWN" "[I") (.int 5)) (.int 1)) (by decide +kernel))
    · exact va_eqt (hs (.eq (.elem (.static "GrainGrowerModel" "DOWN" "[I") (.int 6)) (.int 1)) (by decide +kernel))
    · exact va_eqt (hs (.eq (.elem (.static "GrainGrowerModel" "DOWN" "[I") (.int 7)) (.int (-1))) (by decide +kernel))
    · exact va_eqt (hs (.eq (.elem (.static "GrainGrowerModel" "DOWN" "[I") (.int 8)) (.int (-1))) (by decide +kernel))
    · exact va_eqt (hs (.eq (.elem (.static "GrainGrowerModel" "DOWN" "[I") (.int 9)) (.int 1)) (by decide +kernel))
  obtain ⟨t, h1, h2⟩ := va_Tof (tm := (.static "GrainGrowerModel" "DOWN" "[I")) (ty := .int) (N := 10) (f := fun j => .int (([(-1), 0, 1, 0, (-1), 1, 1, (-1), (-1), 1] : List Int32).getD j 0)) (A := sA s) (by decide) (hs (.arrayOf (.static "GrainGrowerModel" "DOWN" "[I") .int) (by decide +kernel)) (va_eqt (hs (.eq (.length (.static "GrainGrowerModel" "DOWN" "[I")) (.int 10)) (by decide +kernel))) hel sA_n
  exact ⟨t, va_Zref (hts (.laysStatic "GrainGrowerModel" "DOWN" "[I") (List.mem_of_getElem? (i := 941) (by decide +kernel))) (hts (.initialized "GrainGrowerModel") (List.mem_of_getElem? (i := 65) (by decide +kernel))) h1 sA_n, h2⟩
theorem st_4 (hts : ∀ w ∈ lw_tbl, w.before #[Value.ref b] s = true) (hs : ∀ c ∈ flatC (Jvm.Cond.and given_1 narrow_1), c.before #[Value.ref b] s = true) : ∃ t : Nat, va_Z "GrainGrowerModel" "RIGHT" "[I" (.ref t) (sA s) s s.heap ∧ va_T .int t 10 (fun j => .int (([0, 1, 0, (-1), 1, 1, (-1), (-1), 1, (-1)] : List Int32).getD j 0)) (sA s) s s.heap := by
  have hel : ∀ j : Nat, j < 10 → (Term.elem (.static "GrainGrowerModel" "RIGHT" "[I") (.int (Int32.ofNat j))).eval #[Value.ref b] s none [] s = some (.int (([0, 1, 0, (-1), 1, 1, (-1), (-1), 1, (-1)] : List Int32).getD j 0)) := fun j hj => by
    rcases (show j = 0 ∨ j = 1 ∨ j = 2 ∨ j = 3 ∨ j = 4 ∨ j = 5 ∨ j = 6 ∨ j = 7 ∨ j = 8 ∨ j = 9 by omega) with rfl | rfl | rfl | rfl | rfl | rfl | rfl | rfl | rfl | rfl
    · exact va_eqt (hs (.eq (.elem (.static "GrainGrowerModel" "RIGHT" "[I") (.int 0)) (.int 0)) (by decide +kernel))
    · exact va_eqt (hs (.eq (.elem (.static "GrainGrowerModel" "RIGHT" "[I") (.int 1)) (.int 1)) (by decide +kernel))
    · exact va_eqt (hs (.eq (.elem (.static "GrainGrowerModel" "RIGHT" "[I") (.int 2)) (.int 0)) (by decide +kernel))
    · exact va_eqt (hs (.eq (.elem (.static "GrainGrowerModel" "RIGHT" "[I") (.int 3)) (.int (-1))) (by decide +kernel))
    · exact va_eqt (hs (.eq (.elem (.static "GrainGrowerModel" "RIGHT" "[I") (.int 4)) (.int 1)) (by decide +kernel))
    · exact va_eqt (hs (.eq (.elem (.static "GrainGrowerModel" "RIGHT" "[I") (.int 5)) (.int 1)) (by decide +kernel))
    · exact va_eqt (hs (.eq (.elem (.static "GrainGrowerModel" "RIGHT" "[I") (.int 6)) (.int (-1))) (by decide +kernel))
    · exact va_eqt (hs (.eq (.elem (.static "GrainGrowerModel" "RIGHT" "[I") (.int 7)) (.int (-1))) (by decide +kernel))
    · exact va_eqt (hs (.eq (.elem (.static "GrainGrowerModel" "RIGHT" "[I") (.int 8)) (.int 1)) (by decide +kernel))
    · exact va_eqt (hs (.eq (.elem (.static "GrainGrowerModel" "RIGHT" "[I") (.int 9)) (.int (-1))) (by decide +kernel))
  obtain ⟨t, h1, h2⟩ := va_Tof (tm := (.static "GrainGrowerModel" "RIGHT" "[I")) (ty := .int) (N := 10) (f := fun j => .int (([0, 1, 0, (-1), 1, 1, (-1), (-1), 1, (-1)] : List Int32).getD j 0)) (A := sA s) (by decide) (hs (.arrayOf (.static "GrainGrowerModel" "RIGHT" "[I") .int) (by decide +kernel)) (va_eqt (hs (.eq (.length (.static "GrainGrowerModel" "RIGHT" "[I")) (.int 10)) (by decide +kernel))) hel sA_n
  exact ⟨t, va_Zref (hts (.laysStatic "GrainGrowerModel" "RIGHT" "[I") (List.mem_of_getElem? (i := 943) (by decide +kernel))) (hts (.initialized "GrainGrowerModel") (List.mem_of_getElem? (i := 65) (by decide +kernel))) h1 sA_n, h2⟩
theorem st_cl (hw : ∀ w ∈ wsAll, w.before #[Value.ref b] s = true) (hts : ∀ w ∈ lw_tbl, w.before #[Value.ref b] s = true) : ∃ D : va_G, ∀ (k : Nat) (q : vw_C), vwCl[k]? = some q → u_Kn s q.1 q.2.1 q.2.2 (D.1 k) (D.2 k) := by
  obtain ⟨c0, i0, h0⟩ := u_known (C := RX0) (T := TX0) (N := 6) (n := 6) hw winX0 (hts (.instantiable RX0 6) (List.mem_of_getElem? (i := 223) (by decide +kernel)))
  obtain ⟨c1, i1, h1⟩ := u_known (C := RX1) (T := TX1) (N := 12) (n := 12) hw winX1 (hts (.instantiable RX1 12) (List.mem_of_getElem? (i := 84) (by decide +kernel)))
  obtain ⟨c2, i2, h2⟩ := u_known (C := RX2) (T := TX2) (N := 3) (n := 3) hw winX2 (hts (.instantiable RX2 3) (List.mem_of_getElem? (i := 182) (by decide +kernel)))
  obtain ⟨c3, i3, h3⟩ := u_known (C := RX3) (T := TX3) (N := 2) (n := 2) hw winX3 (hts (.instantiable RX3 2) (List.mem_of_getElem? (i := 253) (by decide +kernel)))
  obtain ⟨c4, i4, h4⟩ := u_known (C := RX4) (T := TX4) (N := 3) (n := 3) hw winX4 (hts (.instantiable RX4 3) (List.mem_of_getElem? (i := 268) (by decide +kernel)))
  obtain ⟨c5, i5, h5⟩ := u_known (C := RX5) (T := TX5) (N := 4) (n := 4) hw winX5 (hts (.instantiable RX5 4) (List.mem_of_getElem? (i := 78) (by decide +kernel)))
  obtain ⟨c6, i6, h6⟩ := u_known (C := RX6) (T := TX6) (N := 7) (n := 7) hw winX6 (hts (.instantiable RX6 7) (List.mem_of_getElem? (i := 70) (by decide +kernel)))
  obtain ⟨c7, i7, h7⟩ := u_known (C := RX7) (T := TX7) (N := 20) (n := 20) hw winX7 (hts (.instantiable RX7 20) (List.mem_of_getElem? (i := 801) (by decide +kernel)))
  refine ⟨(fun k => if k = 0 then c0 else if k = 1 then c1 else if k = 2 then c2 else if k = 3 then c3 else if k = 4 then c4 else if k = 5 then c5 else if k = 6 then c6 else c7, fun k => if k = 0 then i0 else if k = 1 then i1 else if k = 2 then i2 else if k = 3 then i3 else if k = 4 then i4 else if k = 5 then i5 else if k = 6 then i6 else i7), fun k q hq => ?_⟩
  exact cl_all (P := fun k q => u_Kn s q.1 q.2.1 q.2.2 ((fun k => if k = 0 then c0 else if k = 1 then c1 else if k = 2 then c2 else if k = 3 then c3 else if k = 4 then c4 else if k = 5 then c5 else if k = 6 then c6 else c7) k) ((fun k => if k = 0 then i0 else if k = 1 then i1 else if k = 2 then i2 else if k = 3 then i3 else if k = 4 then i4 else if k = 5 then i5 else if k = 6 then i6 else i7) k)) h0 h1 h2 h3 h4 h5 h6 h7 hq
theorem st_ar {ty : FieldType} (h : (Cond.arrayClass ty).before #[Value.ref b] s = true) : ∃ cA : ClassId, ArrOfT s cA ty ∧ s.vm.findClass ("[" ++ ty.toString) = some cA := by
  obtain ⟨cA, kA, comp, h1, h2, h3⟩ := Cond.arrayClass_spec h
  exact ⟨cA, fun n z => ⟨fun k h => (by cases h), kA, h2, comp, h3⟩, h1⟩
theorem st_tp (h : va_AO "GrainGrower$Tape" s) : ∃ cA : ClassId, ArrOfT s cA (.object "GrainGrower$Tape") ∧ va_RA s cA (.object "GrainGrower$Tape") := by
  obtain ⟨comp, cA, kA, h1, h2, h3, h4, h5⟩ := Cond.arrayOver_spec h
  exact ⟨cA, fun n z => ⟨fun k h => (by cases h), kA, h3, comp, h4⟩, kA, comp, h3, h4, h1, h5⟩
theorem st_U (hts : ∀ w ∈ lw_tbl, w.before #[Value.ref b] s = true) : ∃ (D : va_G) (cA : Nat → ClassId), xU D cA s := by
  have hw : ∀ w ∈ wsAll, w.before #[Value.ref b] s = true := fun w h => hts w (List.mem_filter.mp h).1
  obtain ⟨D, hD⟩ := st_cl hw hts
  have ao : va_AO "GrainGrower$Tape" s := va_AO.of (hts (.arrayOver (.object "GrainGrower$Tape")) (List.mem_of_getElem? (i := 267) (by decide +kernel)))
  obtain ⟨c0, a1, a2⟩ := st_ar (hts (.arrayClass .int) (List.mem_of_getElem? (i := 180) (by decide +kernel)))
  obtain ⟨c1, b1, b2⟩ := st_ar (hts (.arrayClass .long) (List.mem_of_getElem? (i := 251) (by decide +kernel)))
  obtain ⟨c2, d1, d2⟩ := st_tp ao
  refine ⟨D, fun k => if k = 0 then c0 else if k = 1 then c1 else c2, ⟨hD, fun k q hk => ?_⟩, ?_, ao⟩
  · match k, hk with
    | 0, hk => cases hk; exact ⟨a1, a2⟩
    | 1, hk => cases hk; exact ⟨b1, b2⟩
    | 2, hk => cases hk; exact ⟨d1, d2⟩
    | k + 3, hk => simp [xTys] at hk
  · intro q hq
    simp only [nestW, List.mem_cons, List.not_mem_nil, or_false] at hq
    rcases hq with rfl | rfl | rfl | rfl | rfl
    · exact va_Nw.of rfl (hts (.methodLinkNest RX6 11 yX5_init RX6) (List.mem_of_getElem? (i := 79) (by decide +kernel)))
    · exact va_Nw.of rfl (hts (.methodLinkNest RX6 30 yX0_init RX6) (List.mem_of_getElem? (i := 224) (by decide +kernel)))
    · exact va_Nw.of rfl (hts (.methodLinkNest RX6 37 yX3_init RX6) (List.mem_of_getElem? (i := 254) (by decide +kernel)))
    · exact va_Nw.of rfl (hts (.methodLinkNest RX6 48 yX4_init RX6) (List.mem_of_getElem? (i := 269) (by decide +kernel)))
    · exact va_Nw.of rfl (hts (.methodLinkNest RX1 82 yX6_isMark RX6) (List.mem_of_getElem? (i := 333) (by decide +kernel)))
theorem st_S (hts : ∀ w ∈ lw_tbl, w.before #[Value.ref b] s = true) (hs : ∀ c ∈ flatC (Jvm.Cond.and given_1 narrow_1), c.before #[Value.ref b] s = true) : ∃ st : Nat → Nat, st 5 = b ∧ xSt st (sA s) s s.heap := by
  obtain ⟨t0, h0⟩ := st_0 hts hs
  obtain ⟨t1, h1⟩ := st_1 hts hs
  obtain ⟨t2, h2⟩ := st_2 hts hs
  obtain ⟨t3, h3⟩ := st_3 hts hs
  obtain ⟨t4, h4⟩ := st_4 hts hs
  refine ⟨fun k => if k = 0 then t0 else if k = 1 then t1 else if k = 2 then t2 else if k = 3 then t3 else if k = 4 then t4 else b, rfl, fun k q hq => ?_⟩
  match k, hq with
  | 0, hq => cases hq; exact h0
  | 1, hq => cases hq; exact h1
  | 2, hq => cases hq; exact h2
  | 3, hq => cases hq; exact h3
  | 4, hq => cases hq; exact h4
  | k + 5, hq => simp [sT] at hq
end STA
