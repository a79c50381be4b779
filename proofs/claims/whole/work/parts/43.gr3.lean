/-! the reference finds its grains -/
theorem bkV_neg (r : Option Nat) (h : ∀ j, r = some j → j < 2 ^ 31) : (bkV r = -1) = (r = none) := by
  cases r with
  | none => exact propext ⟨fun _ => rfl, fun _ => rfl⟩
  | some j =>
    refine propext ⟨fun g => ?_, fun g => by cases g⟩
    have g : nI j = -1 := g
    have := nI_toInt (h j rfl)
    rw [g] at this
    have e : (-1 : Int32).toInt = -1 := by decide
    rw [e] at this
    omega
section GROWS
variable {AH : xH} {m : Nat} {s : sMod} {x : sLat} {r : sRow}
/-- only what grains are kept in differs -/
def sMod.gq (s2 s : sMod) : Prop := s2.nw = s.nw ∧ (s2.kp = s.kp ∧ s2.by = s.by) ∧ s2.im = s.im ∧ s2.hI = s.hI ∧ s2.tx = s.tx ∧ s2.wr = s.wr ∧ s2.it = s.it ∧ s2.so = s.so ∧ s2.sz = s.sz
theorem sMod.gq.rf (s : sMod) : s.gq s := ⟨rfl, ⟨rfl, rfl⟩, rfl, rfl, rfl, rfl, rfl, rfl, rfl⟩
theorem sMod.gq.tr {s3 s2 s : sMod} (h : s3.gq s2) (g : s2.gq s) : s3.gq s := ⟨h.1.trans g.1, ⟨h.2.1.1.trans g.2.1.1, h.2.1.2.trans g.2.1.2⟩, h.2.2.1.trans g.2.2.1, h.2.2.2.1.trans g.2.2.2.1, h.2.2.2.2.1.trans g.2.2.2.2.1, h.2.2.2.2.2.1.trans g.2.2.2.2.2.1, h.2.2.2.2.2.2.1.trans g.2.2.2.2.2.2.1, h.2.2.2.2.2.2.2.1.trans g.2.2.2.2.2.2.2.1, h.2.2.2.2.2.2.2.2.trans g.2.2.2.2.2.2.2.2⟩
theorem sMod.gq.go {s2 s : sMod} (h : s2.gq s) (v : Nat → Int32) : (s2.wgo v).gq s := h
theorem sMod.gq.gf {s2 s : sMod} (h : s2.gq s) (v : Nat → Int32) : (s2.wgf v).gq s := h
theorem sMod.gq.gs {s2 s : sMod} (h : s2.gq s) (v : Nat → Int32) : (s2.wgs v).gq s := h
theorem sMod.gq.hp {s2 s : sMod} (h : s2.gq s) (v : Nat → Int32) : (s2.whp v).gq s := h
theorem sMod.gq.gr {s2 s : sMod} (h : s2.gq s) (v : Int32) : (s2.wgr v).gq s := h
theorem sMod.gq.fo {s2 s : sMod} (h : s2.gq s) (v : Nat → Int32) : (s2.wfo v).gq s := h
theorem sMod.gq.fa {s2 s : sMod} (h : s2.gq s) (v : Nat → Int32) : (s2.wfa v).gq s := h
theorem MoL.q (h : MoL AH m s x r) {s2 : sMod} (e : s2.gq s) : MoL (modP AH m s2) m s2 x r := ⟨h.1.put s2, e.1.trans h.2⟩
/-- the rows that a search keeps -/
def kI (s : sMod) (gf gs : Nat → Int32) (t : Nat) (s' : sMod) : Prop := s'.gq s ∧ s'.gf = gf ∧ s'.gs = gs ∧ s'.gr = nI t
theorem kI.st {s s' : sMod} {gf gs : Nat → Int32} {t : Nat} (h : kI s gf gs t s') (a b : Nat → Int32) : kI s gf gs t ((s'.wgo a).whp b) := h
theorem k_spI (h : MoL AH m s x r) (ok : x.ok) {f t i : Nat} {gf gs : Nat → Int32} (hf : f < x.n) (ht : t < 36) {c : Nat} (hc : c < x.n) {a : sSt} (ha : spOK x a) (hi : i < a.2.2) (hci : a.2.1 i = c) (hG : ∀ o j, a.1 o = some j → j ≤ t) {Q : xQ} (k : ∀ (s' : sMod) (w : Option Value), kI s gf gs t s' → spR bkV (spI x f t c a x.nd) s'.go s'.hp → XR TX7_grows 128 [some (.ref m), some (.int (nI f)), some (.int (nI (spI x f t c a x.nd).2.2)), some (.int (nI i)), some (.int (nI x.nd)), w] [] (modP AH m s') (0, 0) Q) : ∀ (n d : Nat), d + n = x.nd → ∀ (s' : sMod) (w : Option Value), kI s gf gs t s' → spR bkV (spI x f t c a d) s'.go s'.hp →
    XR TX7_grows 39 [some (.ref m), some (.int (nI f)), some (.int (nI (spI x f t c a d).2.2)), some (.int (nI i)), some (.int (nI d)), w] [] (modP AH m s') (0, 0) Q := by
  have hn := sLat.n36 ok
  have hnd := sLat.nd8 (x := x)
  intro n
  induction n with
  | zero =>
    intro d hd s' w hs hR
    have hA := h.q hs.1
    rw [eX7_grows_39]
    simp only [eX7_grows_0, eX7_grows_1, eX7_grows_4, eX7_grows_5, eX7_grows_6, eX7_grows_7, eX7_grows_8, eX7_grows_11, eX7_grows_12, eX7_grows_13, eX7_grows_16, eX7_grows_17, eX7_grows_18, eX7_grows_21, eX7_grows_22, eX7_grows_25, eX7_grows_26, eX7_grows_27, eX7_grows_28, eX7_grows_29, eX7_grows_30, eX7_grows_31, eX7_grows_32, eX7_grows_33, eX7_grows_36, eX7_grows_37, eX7_grows_41, eX7_grows_42, eX7_grows_45, eX7_grows_48, eX7_grows_49, eX7_grows_50, eX7_grows_53, eX7_grows_54, eX7_grows_55, eX7_grows_57, eX7_grows_60, eX7_grows_62, eX7_grows_64, eX7_grows_67, eX7_grows_68, eX7_grows_71, eX7_grows_73, eX7_grows_74, eX7_grows_75, eX7_grows_78, eX7_grows_79, eX7_grows_82, eX7_grows_84, eX7_grows_86, eX7_grows_87, eX7_grows_88, eX7_grows_89, eX7_grows_92, eX7_grows_94, eX7_grows_95, eX7_grows_96, eX7_grows_97, eX7_grows_100, eX7_grows_101, eX7_grows_104, eX7_grows_106, eX7_grows_107, eX7_grows_110, eX7_grows_111, eX7_grows_112, eX7_grows_115, eX7_grows_116, eX7_grows_118, eX7_grows_119, eX7_grows_122, eX7_grows_125, eX7_grows_131, eX7_grows_134, eX7_grows_135, eX7_grows_138, eX7_grows_139, eX7_grows_142, eX7_grows_143, eX7_grows_144, Nat.add_zero, Nat.reduceAdd, Nat.reduceLeDiff, Nat.zero_le, and_true, o_aload_0r, o_callV_0, o_callV_2, o_const_e, o_getf_e, o_goto_e, o_iald_e, o_iald_f, o_iast_e, o_icmp_e, o_if_e, o_ii_e, o_iinc_2, o_iinc_3, o_iinc_4, o_iload_1, o_iload_2, o_iload_3, o_iload_4, o_iload_5, o_ist_2, o_ist_3, o_ist_4, o_ist_5, o_vret_e, tl_n, tl_s, true_and, xnlv_i, xnlv_n, xnlv_r, xwt_0, xwt_f, xwt_i, xwt_l, xwt_r, hA.1.cls, hA.1.g0, hA.1.g1, hA.1.g2, hA.1.g3, hA.1.g4, hA.1.g5, hA.1.g6, hA.1.g7, hA.1.g8, hA.1.g9, hA.1.g10, hA.1.g11, hA.1.g12, hA.1.g13, hA.1.g14, hA.1.g15, hA.1.g16, hA.1.g17, hA.1.g18, hA.1.g19, hA.i0, hA.i1, hA.i2, hA.i3, hA.i4, hA.i5, hA.i6, hA.i7, hA.i8, hA.i9, hA.i10, hA.j0, hA.j1, hA.j2, hA.j3, hA.j4, hA.j5, hA.j6, hA.j7, hA.j8, hA.j9, hA.j10]
    refine d_directions hA ok ?_
    simp only [eX7_grows_0, eX7_grows_1, eX7_grows_4, eX7_grows_5, eX7_grows_6, eX7_grows_7, eX7_grows_8, eX7_grows_11, eX7_grows_12, eX7_grows_13, eX7_grows_16, eX7_grows_17, eX7_grows_18, eX7_grows_21, eX7_grows_22, eX7_grows_25, eX7_grows_26, eX7_grows_27, eX7_grows_28, eX7_grows_29, eX7_grows_30, eX7_grows_31, eX7_grows_32, eX7_grows_33, eX7_grows_36, eX7_grows_37, eX7_grows_41, eX7_grows_42, eX7_grows_45, eX7_grows_48, eX7_grows_49, eX7_grows_50, eX7_grows_53, eX7_grows_54, eX7_grows_55, eX7_grows_57, eX7_grows_60, eX7_grows_62, eX7_grows_64, eX7_grows_67, eX7_grows_68, eX7_grows_71, eX7_grows_73, eX7_grows_74, eX7_grows_75, eX7_grows_78, eX7_grows_79, eX7_grows_82, eX7_grows_84, eX7_grows_86, eX7_grows_87, eX7_grows_88, eX7_grows_89, eX7_grows_92, eX7_grows_94, eX7_grows_95, eX7_grows_96, eX7_grows_97, eX7_grows_100, eX7_grows_101, eX7_grows_104, eX7_grows_106, eX7_grows_107, eX7_grows_110, eX7_grows_111, eX7_grows_112, eX7_grows_115, eX7_grows_116, eX7_grows_118, eX7_grows_119, eX7_grows_122, eX7_grows_125, eX7_grows_131, eX7_grows_134, eX7_grows_135, eX7_grows_138, eX7_grows_139, eX7_grows_142, eX7_grows_143, eX7_grows_144, Nat.add_zero, Nat.reduceAdd, Nat.reduceLeDiff, Nat.zero_le, and_true, o_aload_0r, o_callV_0, o_callV_2, o_const_e, o_getf_e, o_goto_e, o_iald_e, o_iald_f, o_iast_e, o_icmp_e, o_if_e, o_ii_e, o_iinc_2, o_iinc_3, o_iinc_4, o_iload_1, o_iload_2, o_iload_3, o_iload_4, o_iload_5, o_ist_2, o_ist_3, o_ist_4, o_ist_5, o_vret_e, tl_n, tl_s, true_and, xnlv_i, xnlv_n, xnlv_r, xwt_0, xwt_f, xwt_i, xwt_l, xwt_r, le_nI (a := x.nd) (b := d) (by omega) (by omega)]
    refine ⟨fun _ => ?_, fun g => by omega⟩
    have e : d = x.nd := by omega
    subst e
    exact k s' w hs hR
  | succ n ih =>
    intro d hd s' w hs hR
    have hA := h.q hs.1
    have okd := spI_ok ok (f := f) (t := t) (c := c) ha d
    have hGd : ∀ o j, (spI x f t c a d).1 o = some j → j ≤ t := fun o j hj => by
      rcases spI_G (x := x) (f := f) (t := t) (c := c) (i := o) (a := a) d with e | e
      · rw [e] at hj; exact hG o j hj
      · rw [e] at hj; cases hj; exact Nat.le_refl t
    have hmono : ∀ d, a.2.2 ≤ (spI x f t c a d).2.2 ∧ (spI x f t c a d).2.1 i = c := by
      intro d
      induction d with
      | zero => exact ⟨Nat.le_refl _, hci⟩
      | succ d ihd =>
        have := spD_mono (x := x) (f := f) (t := t) (c := c) (d := d) (a := spI x f t c a d)
        exact ⟨Nat.le_trans ihd.1 this.1, (this.2 i (by omega)).trans ihd.2⟩
    have hmd := hmono d
    have hle := okd.le
    rw [eX7_grows_39]
    simp only [eX7_grows_0, eX7_grows_1, eX7_grows_4, eX7_grows_5, eX7_grows_6, eX7_grows_7, eX7_grows_8, eX7_grows_11, eX7_grows_12, eX7_grows_13, eX7_grows_16, eX7_grows_17, eX7_grows_18, eX7_grows_21, eX7_grows_22, eX7_grows_25, eX7_grows_26, eX7_grows_27, eX7_grows_28, eX7_grows_29, eX7_grows_30, eX7_grows_31, eX7_grows_32, eX7_grows_33, eX7_grows_36, eX7_grows_37, eX7_grows_41, eX7_grows_42, eX7_grows_45, eX7_grows_48, eX7_grows_49, eX7_grows_50, eX7_grows_53, eX7_grows_54, eX7_grows_55, eX7_grows_57, eX7_grows_60, eX7_grows_62, eX7_grows_64, eX7_grows_67, eX7_grows_68, eX7_grows_71, eX7_grows_73, eX7_grows_74, eX7_grows_75, eX7_grows_78, eX7_grows_79, eX7_grows_82, eX7_grows_84, eX7_grows_86, eX7_grows_87, eX7_grows_88, eX7_grows_89, eX7_grows_92, eX7_grows_94, eX7_grows_95, eX7_grows_96, eX7_grows_97, eX7_grows_100, eX7_grows_101, eX7_grows_104, eX7_grows_106, eX7_grows_107, eX7_grows_110, eX7_grows_111, eX7_grows_112, eX7_grows_115, eX7_grows_116, eX7_grows_118, eX7_grows_119, eX7_grows_122, eX7_grows_125, eX7_grows_131, eX7_grows_134, eX7_grows_135, eX7_grows_138, eX7_grows_139, eX7_grows_142, eX7_grows_143, eX7_grows_144, Nat.add_zero, Nat.reduceAdd, Nat.reduceLeDiff, Nat.zero_le, and_true, o_aload_0r, o_callV_0, o_callV_2, o_const_e, o_getf_e, o_goto_e, o_iald_e, o_iald_f, o_iast_e, o_icmp_e, o_if_e, o_ii_e, o_iinc_2, o_iinc_3, o_iinc_4, o_iload_1, o_iload_2, o_iload_3, o_iload_4, o_iload_5, o_ist_2, o_ist_3, o_ist_4, o_ist_5, o_vret_e, tl_n, tl_s, true_and, xnlv_i, xnlv_n, xnlv_r, xwt_0, xwt_f, xwt_i, xwt_l, xwt_r, hA.1.cls, hA.1.g0, hA.1.g1, hA.1.g2, hA.1.g3, hA.1.g4, hA.1.g5, hA.1.g6, hA.1.g7, hA.1.g8, hA.1.g9, hA.1.g10, hA.1.g11, hA.1.g12, hA.1.g13, hA.1.g14, hA.1.g15, hA.1.g16, hA.1.g17, hA.1.g18, hA.1.g19, hA.i0, hA.i1, hA.i2, hA.i3, hA.i4, hA.i5, hA.i6, hA.i7, hA.i8, hA.i9, hA.i10, hA.j0, hA.j1, hA.j2, hA.j3, hA.j4, hA.j5, hA.j6, hA.j7, hA.j8, hA.j9, hA.j10]
    refine d_directions hA ok ?_
    have eq : s'.hp i = nI c := by
      have := hR.2 i (by omega)
      rw [hmd.2] at this
      exact this
    simp only [eX7_grows_0, eX7_grows_1, eX7_grows_4, eX7_grows_5, eX7_grows_6, eX7_grows_7, eX7_grows_8, eX7_grows_11, eX7_grows_12, eX7_grows_13, eX7_grows_16, eX7_grows_17, eX7_grows_18, eX7_grows_21, eX7_grows_22, eX7_grows_25, eX7_grows_26, eX7_grows_27, eX7_grows_28, eX7_grows_29, eX7_grows_30, eX7_grows_31, eX7_grows_32, eX7_grows_33, eX7_grows_36, eX7_grows_37, eX7_grows_41, eX7_grows_42, eX7_grows_45, eX7_grows_48, eX7_grows_49, eX7_grows_50, eX7_grows_53, eX7_grows_54, eX7_grows_55, eX7_grows_57, eX7_grows_60, eX7_grows_62, eX7_grows_64, eX7_grows_67, eX7_grows_68, eX7_grows_71, eX7_grows_73, eX7_grows_74, eX7_grows_75, eX7_grows_78, eX7_grows_79, eX7_grows_82, eX7_grows_84, eX7_grows_86, eX7_grows_87, eX7_grows_88, eX7_grows_89, eX7_grows_92, eX7_grows_94, eX7_grows_95, eX7_grows_96, eX7_grows_97, eX7_grows_100, eX7_grows_101, eX7_grows_104, eX7_grows_106, eX7_grows_107, eX7_grows_110, eX7_grows_111, eX7_grows_112, eX7_grows_115, eX7_grows_116, eX7_grows_118, eX7_grows_119, eX7_grows_122, eX7_grows_125, eX7_grows_131, eX7_grows_134, eX7_grows_135, eX7_grows_138, eX7_grows_139, eX7_grows_142, eX7_grows_143, eX7_grows_144, Nat.add_zero, Nat.reduceAdd, Nat.reduceLeDiff, Nat.zero_le, and_true, o_aload_0r, o_callV_0, o_callV_2, o_const_e, o_getf_e, o_goto_e, o_iald_e, o_iald_f, o_iast_e, o_icmp_e, o_if_e, o_ii_e, o_iinc_2, o_iinc_3, o_iinc_4, o_iload_1, o_iload_2, o_iload_3, o_iload_4, o_iload_5, o_ist_2, o_ist_3, o_ist_4, o_ist_5, o_vret_e, tl_n, tl_s, true_and, xnlv_i, xnlv_n, xnlv_r, xwt_0, xwt_f, xwt_i, xwt_l, xwt_r, hA.1.cls, hA.1.g0, hA.1.g1, hA.1.g2, hA.1.g3, hA.1.g4, hA.1.g5, hA.1.g6, hA.1.g7, hA.1.g8, hA.1.g9, hA.1.g10, hA.1.g11, hA.1.g12, hA.1.g13, hA.1.g14, hA.1.g15, hA.1.g16, hA.1.g17, hA.1.g18, hA.1.g19, hA.i0, hA.i1, hA.i2, hA.i3, hA.i4, hA.i5, hA.i6, hA.i7, hA.i8, hA.i9, hA.i10, hA.j0, hA.j1, hA.j2, hA.j3, hA.j4, hA.j5, hA.j6, hA.j7, hA.j8, hA.j9, hA.j10, le_nI (a := x.nd) (b := d) (by omega) (by omega), hA.1.r_hp (c := i) (by omega), eq]
    refine ⟨fun g => by omega, fun _ => d_beside hA ok hc (by omega) ?_⟩
    have ih := ih (d + 1) (by omega)
    rw [show spI x f t c a (d + 1) = spD x f t c d (spI x f t c a d) from rfl] at ih
    generalize hq : spI x f t c a d = q at *
    unfold spD at ih
    cases hb : x.nb c d with
    | none =>
      simp only [hb] at ih
      simp only [eX7_grows_0, eX7_grows_1, eX7_grows_4, eX7_grows_5, eX7_grows_6, eX7_grows_7, eX7_grows_8, eX7_grows_11, eX7_grows_12, eX7_grows_13, eX7_grows_16, eX7_grows_17, eX7_grows_18, eX7_grows_21, eX7_grows_22, eX7_grows_25, eX7_grows_26, eX7_grows_27, eX7_grows_28, eX7_grows_29, eX7_grows_30, eX7_grows_31, eX7_grows_32, eX7_grows_33, eX7_grows_36, eX7_grows_37, eX7_grows_41, eX7_grows_42, eX7_grows_45, eX7_grows_48, eX7_grows_49, eX7_grows_50, eX7_grows_53, eX7_grows_54, eX7_grows_55, eX7_grows_57, eX7_grows_60, eX7_grows_62, eX7_grows_64, eX7_grows_67, eX7_grows_68, eX7_grows_71, eX7_grows_73, eX7_grows_74, eX7_grows_75, eX7_grows_78, eX7_grows_79, eX7_grows_82, eX7_grows_84, eX7_grows_86, eX7_grows_87, eX7_grows_88, eX7_grows_89, eX7_grows_92, eX7_grows_94, eX7_grows_95, eX7_grows_96, eX7_grows_97, eX7_grows_100, eX7_grows_101, eX7_grows_104, eX7_grows_106, eX7_grows_107, eX7_grows_110, eX7_grows_111, eX7_grows_112, eX7_grows_115, eX7_grows_116, eX7_grows_118, eX7_grows_119, eX7_grows_122, eX7_grows_125, eX7_grows_131, eX7_grows_134, eX7_grows_135, eX7_grows_138, eX7_grows_139, eX7_grows_142, eX7_grows_143, eX7_grows_144, Nat.add_zero, Nat.reduceAdd, Nat.reduceLeDiff, Nat.zero_le, and_true, o_aload_0r, o_callV_0, o_callV_2, o_const_e, o_getf_e, o_goto_e, o_iald_e, o_iald_f, o_iast_e, o_icmp_e, o_if_e, o_ii_e, o_iinc_2, o_iinc_3, o_iinc_4, o_iload_1, o_iload_2, o_iload_3, o_iload_4, o_iload_5, o_ist_2, o_ist_3, o_ist_4, o_ist_5, o_vret_e, tl_n, tl_s, true_and, xnlv_i, xnlv_n, xnlv_r, xwt_0, xwt_f, xwt_i, xwt_l, xwt_r, bkV, n1, nI_add]
      refine ⟨fun _ => ?_, fun g => absurd (by decide) g⟩
      exact ih s' _ hs hR
    | some o =>
      have ho := sLat.nb_36 ok hb
      have hmo := ok.1 o
      have hmf := ok.1 f
      simp only [hb] at ih
      have e1 : s'.go o = bkV (q.1 o) := hR.1 o ho
      have e2 : s'.gr = nI t := hs.2.2.2
      have e3 := bkV_neg (q.1 o) (fun j hj => by have := hGd o j hj; omega)
      rw [show bkV (some o) = nI o from rfl]
      simp only [eX7_grows_0, eX7_grows_1, eX7_grows_4, eX7_grows_5, eX7_grows_6, eX7_grows_7, eX7_grows_8, eX7_grows_11, eX7_grows_12, eX7_grows_13, eX7_grows_16, eX7_grows_17, eX7_grows_18, eX7_grows_21, eX7_grows_22, eX7_grows_25, eX7_grows_26, eX7_grows_27, eX7_grows_28, eX7_grows_29, eX7_grows_30, eX7_grows_31, eX7_grows_32, eX7_grows_33, eX7_grows_36, eX7_grows_37, eX7_grows_41, eX7_grows_42, eX7_grows_45, eX7_grows_48, eX7_grows_49, eX7_grows_50, eX7_grows_53, eX7_grows_54, eX7_grows_55, eX7_grows_57, eX7_grows_60, eX7_grows_62, eX7_grows_64, eX7_grows_67, eX7_grows_68, eX7_grows_71, eX7_grows_73, eX7_grows_74, eX7_grows_75, eX7_grows_78, eX7_grows_79, eX7_grows_82, eX7_grows_84, eX7_grows_86, eX7_grows_87, eX7_grows_88, eX7_grows_89, eX7_grows_92, eX7_grows_94, eX7_grows_95, eX7_grows_96, eX7_grows_97, eX7_grows_100, eX7_grows_101, eX7_grows_104, eX7_grows_106, eX7_grows_107, eX7_grows_110, eX7_grows_111, eX7_grows_112, eX7_grows_115, eX7_grows_116, eX7_grows_118, eX7_grows_119, eX7_grows_122, eX7_grows_125, eX7_grows_131, eX7_grows_134, eX7_grows_135, eX7_grows_138, eX7_grows_139, eX7_grows_142, eX7_grows_143, eX7_grows_144, Nat.add_zero, Nat.reduceAdd, Nat.reduceLeDiff, Nat.zero_le, and_true, o_aload_0r, o_callV_0, o_callV_2, o_const_e, o_getf_e, o_goto_e, o_iald_e, o_iald_f, o_iast_e, o_icmp_e, o_if_e, o_ii_e, o_iinc_2, o_iinc_3, o_iinc_4, o_iload_1, o_iload_2, o_iload_3, o_iload_4, o_iload_5, o_ist_2, o_ist_3, o_ist_4, o_ist_5, o_vret_e, tl_n, tl_s, true_and, xnlv_i, xnlv_n, xnlv_r, xwt_0, xwt_f, xwt_i, xwt_l, xwt_r, lt0_nI (a := o) (by omega), not_true_eq_false, not_false_eq_true, true_implies, false_implies, and_true, true_and, implies_true, forall_const, ↓reduceIte, Bool.false_eq_true, i10, i10n, hA.1.cls, hA.1.g0, hA.1.g1, hA.1.g2, hA.1.g3, hA.1.g4, hA.1.g5, hA.1.g6, hA.1.g7, hA.1.g8, hA.1.g9, hA.1.g10, hA.1.g11, hA.1.g12, hA.1.g13, hA.1.g14, hA.1.g15, hA.1.g16, hA.1.g17, hA.1.g18, hA.1.g19, hA.i0, hA.i1, hA.i2, hA.i3, hA.i4, hA.i5, hA.i6, hA.i7, hA.i8, hA.i9, hA.i10, hA.j0, hA.j1, hA.j2, hA.j3, hA.j4, hA.j5, hA.j6, hA.j7, hA.j8, hA.j9, hA.j10, hA.1.r_go ho, e1, e3]
      by_cases g1 : q.1 o = none
      · have hlt := okd.lt g1 ho
        simp only [eX7_grows_0, eX7_grows_1, eX7_grows_4, eX7_grows_5, eX7_grows_6, eX7_grows_7, eX7_grows_8, eX7_grows_11, eX7_grows_12, eX7_grows_13, eX7_grows_16, eX7_grows_17, eX7_grows_18, eX7_grows_21, eX7_grows_22, eX7_grows_25, eX7_grows_26, eX7_grows_27, eX7_grows_28, eX7_grows_29, eX7_grows_30, eX7_grows_31, eX7_grows_32, eX7_grows_33, eX7_grows_36, eX7_grows_37, eX7_grows_41, eX7_grows_42, eX7_grows_45, eX7_grows_48, eX7_grows_49, eX7_grows_50, eX7_grows_53, eX7_grows_54, eX7_grows_55, eX7_grows_57, eX7_grows_60, eX7_grows_62, eX7_grows_64, eX7_grows_67, eX7_grows_68, eX7_grows_71, eX7_grows_73, eX7_grows_74, eX7_grows_75, eX7_grows_78, eX7_grows_79, eX7_grows_82, eX7_grows_84, eX7_grows_86, eX7_grows_87, eX7_grows_88, eX7_grows_89, eX7_grows_92, eX7_grows_94, eX7_grows_95, eX7_grows_96, eX7_grows_97, eX7_grows_100, eX7_grows_101, eX7_grows_104, eX7_grows_106, eX7_grows_107, eX7_grows_110, eX7_grows_111, eX7_grows_112, eX7_grows_115, eX7_grows_116, eX7_grows_118, eX7_grows_119, eX7_grows_122, eX7_grows_125, eX7_grows_131, eX7_grows_134, eX7_grows_135, eX7_grows_138, eX7_grows_139, eX7_grows_142, eX7_grows_143, eX7_grows_144, Nat.add_zero, Nat.reduceAdd, Nat.reduceLeDiff, Nat.zero_le, and_true, o_aload_0r, o_callV_0, o_callV_2, o_const_e, o_getf_e, o_goto_e, o_iald_e, o_iald_f, o_iast_e, o_icmp_e, o_if_e, o_ii_e, o_iinc_2, o_iinc_3, o_iinc_4, o_iload_1, o_iload_2, o_iload_3, o_iload_4, o_iload_5, o_ist_2, o_ist_3, o_ist_4, o_ist_5, o_vret_e, tl_n, tl_s, true_and, xnlv_i, xnlv_n, xnlv_r, xwt_0, xwt_f, xwt_i, xwt_l, xwt_r, n11, nI_add, hA.rm ho, hA.rm (c := f) (by omega), eq_nI (a := x.mk o) (b := x.mk f) (by omega) (by omega), hA.1.cls, hA.1.g0, hA.1.g1, hA.1.g2, hA.1.g3, hA.1.g4, hA.1.g5, hA.1.g6, hA.1.g7, hA.1.g8, hA.1.g9, hA.1.g10, hA.1.g11, hA.1.g12, hA.1.g13, hA.1.g14, hA.1.g15, hA.1.g16, hA.1.g17, hA.1.g18, hA.1.g19, hA.i0, hA.i1, hA.i2, hA.i3, hA.i4, hA.i5, hA.i6, hA.i7, hA.i8, hA.i9, hA.i10, hA.j0, hA.j1, hA.j2, hA.j3, hA.j4, hA.j5, hA.j6, hA.j7, hA.j8, hA.j9, hA.j10, e2, hA.1.w_go ho]
        refine ⟨fun g => absurd g1 g, fun _ => ⟨fun g2 => ?_, fun g2 => ?_⟩⟩
        · rw [if_neg (fun z => g2 z.2)] at ih
          rw [n1, nI_add]
          exact ih s' _ hs hR
        · have g2 := Classical.not_not.mp g2
          rw [if_pos ⟨g1, g2⟩] at ih
          rw [modP_modP h.1.lt]
          have hB := h.q (hs.1.go (upd s'.go o (nI t)))
          simp only [eX7_grows_0, eX7_grows_1, eX7_grows_4, eX7_grows_5, eX7_grows_6, eX7_grows_7, eX7_grows_8, eX7_grows_11, eX7_grows_12, eX7_grows_13, eX7_grows_16, eX7_grows_17, eX7_grows_18, eX7_grows_21, eX7_grows_22, eX7_grows_25, eX7_grows_26, eX7_grows_27, eX7_grows_28, eX7_grows_29, eX7_grows_30, eX7_grows_31, eX7_grows_32, eX7_grows_33, eX7_grows_36, eX7_grows_37, eX7_grows_41, eX7_grows_42, eX7_grows_45, eX7_grows_48, eX7_grows_49, eX7_grows_50, eX7_grows_53, eX7_grows_54, eX7_grows_55, eX7_grows_57, eX7_grows_60, eX7_grows_62, eX7_grows_64, eX7_grows_67, eX7_grows_68, eX7_grows_71, eX7_grows_73, eX7_grows_74, eX7_grows_75, eX7_grows_78, eX7_grows_79, eX7_grows_82, eX7_grows_84, eX7_grows_86, eX7_grows_87, eX7_grows_88, eX7_grows_89, eX7_grows_92, eX7_grows_94, eX7_grows_95, eX7_grows_96, eX7_grows_97, eX7_grows_100, eX7_grows_101, eX7_grows_104, eX7_grows_106, eX7_grows_107, eX7_grows_110, eX7_grows_111, eX7_grows_112, eX7_grows_115, eX7_grows_116, eX7_grows_118, eX7_grows_119, eX7_grows_122, eX7_grows_125, eX7_grows_131, eX7_grows_134, eX7_grows_135, eX7_grows_138, eX7_grows_139, eX7_grows_142, eX7_grows_143, eX7_grows_144, Nat.add_zero, Nat.reduceAdd, Nat.reduceLeDiff, Nat.zero_le, and_true, o_aload_0r, o_callV_0, o_callV_2, o_const_e, o_getf_e, o_goto_e, o_iald_e, o_iald_f, o_iast_e, o_icmp_e, o_if_e, o_ii_e, o_iinc_2, o_iinc_3, o_iinc_4, o_iload_1, o_iload_2, o_iload_3, o_iload_4, o_iload_5, o_ist_2, o_ist_3, o_ist_4, o_ist_5, o_vret_e, tl_n, tl_s, true_and, xnlv_i, xnlv_n, xnlv_r, xwt_0, xwt_f, xwt_i, xwt_l, xwt_r, hB.1.cls, hB.1.g0, hB.1.g1, hB.1.g2, hB.1.g3, hB.1.g4, hB.1.g5, hB.1.g6, hB.1.g7, hB.1.g8, hB.1.g9, hB.1.g10, hB.1.g11, hB.1.g12, hB.1.g13, hB.1.g14, hB.1.g15, hB.1.g16, hB.1.g17, hB.1.g18, hB.1.g19, hB.i0, hB.i1, hB.i2, hB.i3, hB.i4, hB.i5, hB.i6, hB.i7, hB.i8, hB.i9, hB.i10, hB.j0, hB.j1, hB.j2, hB.j3, hB.j4, hB.j5, hB.j6, hB.j7, hB.j8, hB.j9, hB.j10, hB.1.w_hp hlt, n1, nI_add]
          rw [modP_modP h.1.lt]
          exact ih ((s'.wgo (upd s'.go o (nI t))).whp (upd s'.hp q.2.2 (nI o))) _ (hs.st _ _) (hR.push rfl)
      · rw [if_neg (fun z => g1 z.1)] at ih
        refine ⟨fun _ => ?_, fun z => absurd (Classical.not_not.mp z) g1⟩
        rw [n1, nI_add]
        exact ih s' _ hs hR
theorem k_spO (h : MoL AH m s x r) (ok : x.ok) {f t : Nat} {gf gs : Nat → Int32} (hf : f < x.n) (ht : t < 36) {Q : xQ} : ∀ (k i : Nat), i + k = 36 → ∀ (a : sSt), spOK x a → (∀ o j, a.1 o = some j → j ≤ t) → (∀ (s' : sMod) (w3 w4 w5 : Option Value), kI s gf gs t s' → spR bkV (spO x f t k i a) s'.go s'.hp → XR TX7_grows 134 [some (.ref m), some (.int (nI f)), some (.int (nI (spO x f t k i a).2.2)), w3, w4, w5] [] (modP AH m s') (0, 0) Q) → ∀ (s' : sMod) (w4 w5 : Option Value), kI s gf gs t s' → spR bkV a s'.go s'.hp →
    XR TX7_grows 31 [some (.ref m), some (.int (nI f)), some (.int (nI a.2.2)), some (.int (nI i)), w4, w5] [] (modP AH m s') (0, 0) Q := by
  have hn := sLat.n36 ok
  intro k
  induction k with
  | zero =>
    intro i hi a ha hG kk s' w4 w5 hs hR
    have hle := ha.le
    rw [eX7_grows_31]
    simp only [eX7_grows_0, eX7_grows_1, eX7_grows_4, eX7_grows_5, eX7_grows_6, eX7_grows_7, eX7_grows_8, eX7_grows_11, eX7_grows_12, eX7_grows_13, eX7_grows_16, eX7_grows_17, eX7_grows_18, eX7_grows_21, eX7_grows_22, eX7_grows_25, eX7_grows_26, eX7_grows_27, eX7_grows_28, eX7_grows_29, eX7_grows_30, eX7_grows_32, eX7_grows_33, eX7_grows_36, eX7_grows_37, eX7_grows_41, eX7_grows_42, eX7_grows_45, eX7_grows_48, eX7_grows_49, eX7_grows_50, eX7_grows_53, eX7_grows_54, eX7_grows_55, eX7_grows_57, eX7_grows_60, eX7_grows_62, eX7_grows_64, eX7_grows_67, eX7_grows_68, eX7_grows_71, eX7_grows_73, eX7_grows_74, eX7_grows_75, eX7_grows_78, eX7_grows_79, eX7_grows_82, eX7_grows_84, eX7_grows_86, eX7_grows_87, eX7_grows_88, eX7_grows_89, eX7_grows_92, eX7_grows_94, eX7_grows_95, eX7_grows_96, eX7_grows_97, eX7_grows_100, eX7_grows_101, eX7_grows_104, eX7_grows_106, eX7_grows_107, eX7_grows_110, eX7_grows_111, eX7_grows_112, eX7_grows_115, eX7_grows_116, eX7_grows_118, eX7_grows_119, eX7_grows_122, eX7_grows_125, eX7_grows_128, eX7_grows_131, eX7_grows_135, eX7_grows_138, eX7_grows_139, eX7_grows_142, eX7_grows_143, eX7_grows_144, Nat.add_zero, Nat.reduceAdd, Nat.reduceLeDiff, Nat.zero_le, and_true, o_aload_0r, o_callV_0, o_callV_2, o_const_e, o_getf_e, o_goto_e, o_iald_e, o_iald_f, o_iast_e, o_icmp_e, o_if_e, o_ii_e, o_iinc_2, o_iinc_3, o_iinc_4, o_iload_1, o_iload_2, o_iload_3, o_iload_4, o_iload_5, o_ist_2, o_ist_3, o_ist_4, o_ist_5, o_vret_e, tl_n, tl_s, true_and, xnlv_i, xnlv_n, xnlv_r, xwt_0, xwt_f, xwt_i, xwt_l, xwt_r, le_nI (a := a.2.2) (b := i) (by omega) (by omega)]
    exact ⟨fun _ => kk s' _ _ _ hs hR, fun z => by omega⟩
  | succ k ih =>
    intro i hi a ha hG kk s' w4 w5 hs hR
    have hle := ha.le
    rw [eX7_grows_31]
    simp only [eX7_grows_0, eX7_grows_1, eX7_grows_4, eX7_grows_5, eX7_grows_6, eX7_grows_7, eX7_grows_8, eX7_grows_11, eX7_grows_12, eX7_grows_13, eX7_grows_16, eX7_grows_17, eX7_grows_18, eX7_grows_21, eX7_grows_22, eX7_grows_25, eX7_grows_26, eX7_grows_27, eX7_grows_28, eX7_grows_29, eX7_grows_30, eX7_grows_32, eX7_grows_33, eX7_grows_36, eX7_grows_37, eX7_grows_41, eX7_grows_42, eX7_grows_45, eX7_grows_48, eX7_grows_49, eX7_grows_50, eX7_grows_53, eX7_grows_54, eX7_grows_55, eX7_grows_57, eX7_grows_60, eX7_grows_62, eX7_grows_64, eX7_grows_67, eX7_grows_68, eX7_grows_71, eX7_grows_73, eX7_grows_74, eX7_grows_75, eX7_grows_78, eX7_grows_79, eX7_grows_82, eX7_grows_84, eX7_grows_86, eX7_grows_87, eX7_grows_88, eX7_grows_89, eX7_grows_92, eX7_grows_94, eX7_grows_95, eX7_grows_96, eX7_grows_97, eX7_grows_100, eX7_grows_101, eX7_grows_104, eX7_grows_106, eX7_grows_107, eX7_grows_110, eX7_grows_111, eX7_grows_112, eX7_grows_115, eX7_grows_116, eX7_grows_118, eX7_grows_119, eX7_grows_122, eX7_grows_125, eX7_grows_128, eX7_grows_131, eX7_grows_135, eX7_grows_138, eX7_grows_139, eX7_grows_142, eX7_grows_143, eX7_grows_144, Nat.add_zero, Nat.reduceAdd, Nat.reduceLeDiff, Nat.zero_le, and_true, o_aload_0r, o_callV_0, o_callV_2, o_const_e, o_getf_e, o_goto_e, o_iald_e, o_iald_f, o_iast_e, o_icmp_e, o_if_e, o_ii_e, o_iinc_2, o_iinc_3, o_iinc_4, o_iload_1, o_iload_2, o_iload_3, o_iload_4, o_iload_5, o_ist_2, o_ist_3, o_ist_4, o_ist_5, o_vret_e, tl_n, tl_s, true_and, xnlv_i, xnlv_n, xnlv_r, xwt_0, xwt_f, xwt_i, xwt_l, xwt_r, le_nI (a := a.2.2) (b := i) (by omega) (by omega)]
    refine ⟨fun z => ?_, fun z => ?_⟩
    · have e : spO x f t (k + 1) i a = a := by unfold spO; rw [if_neg (by omega)]
      rw [e] at kk
      exact kk s' _ _ _ hs hR
    · have e : spO x f t (k + 1) i a = spO x f t k (i + 1) (spI x f t (a.2.1 i) a x.nd) := by
        show (if i < a.2.2 then _ else _) = _
        rw [if_pos (by omega)]
      rw [e] at kk
      have hci := ha.2.1 i (by omega)
      refine k_spI h ok hf ht hci ha (i := i) (by omega) rfl hG (fun s2 w hs2 hR' => ?_) x.nd 0 (by omega) s' _ hs hR
      simp only [eX7_grows_0, eX7_grows_1, eX7_grows_4, eX7_grows_5, eX7_grows_6, eX7_grows_7, eX7_grows_8, eX7_grows_11, eX7_grows_12, eX7_grows_13, eX7_grows_16, eX7_grows_17, eX7_grows_18, eX7_grows_21, eX7_grows_22, eX7_grows_25, eX7_grows_26, eX7_grows_27, eX7_grows_28, eX7_grows_29, eX7_grows_30, eX7_grows_32, eX7_grows_33, eX7_grows_36, eX7_grows_37, eX7_grows_41, eX7_grows_42, eX7_grows_45, eX7_grows_48, eX7_grows_49, eX7_grows_50, eX7_grows_53, eX7_grows_54, eX7_grows_55, eX7_grows_57, eX7_grows_60, eX7_grows_62, eX7_grows_64, eX7_grows_67, eX7_grows_68, eX7_grows_71, eX7_grows_73, eX7_grows_74, eX7_grows_75, eX7_grows_78, eX7_grows_79, eX7_grows_82, eX7_grows_84, eX7_grows_86, eX7_grows_87, eX7_grows_88, eX7_grows_89, eX7_grows_92, eX7_grows_94, eX7_grows_95, eX7_grows_96, eX7_grows_97, eX7_grows_100, eX7_grows_101, eX7_grows_104, eX7_grows_106, eX7_grows_107, eX7_grows_110, eX7_grows_111, eX7_grows_112, eX7_grows_115, eX7_grows_116, eX7_grows_118, eX7_grows_119, eX7_grows_122, eX7_grows_125, eX7_grows_128, eX7_grows_131, eX7_grows_135, eX7_grows_138, eX7_grows_139, eX7_grows_142, eX7_grows_143, eX7_grows_144, Nat.add_zero, Nat.reduceAdd, Nat.reduceLeDiff, Nat.zero_le, and_true, o_aload_0r, o_callV_0, o_callV_2, o_const_e, o_getf_e, o_goto_e, o_iald_e, o_iald_f, o_iast_e, o_icmp_e, o_if_e, o_ii_e, o_iinc_2, o_iinc_3, o_iinc_4, o_iload_1, o_iload_2, o_iload_3, o_iload_4, o_iload_5, o_ist_2, o_ist_3, o_ist_4, o_ist_5, o_vret_e, tl_n, tl_s, true_and, xnlv_i, xnlv_n, xnlv_r, xwt_0, xwt_f, xwt_i, xwt_l, xwt_r, n1, nI_add]
      refine ih (i + 1) (by omega) _ (spI_ok ok ha _) (fun o j hj => ?_) kk s2 _ _ hs2 hR'
      rcases spI_G (x := x) (f := f) (t := t) (c := a.2.1 i) (i := o) (a := a) x.nd with e | e
      · rw [e] at hj; exact hG o j hj
      · rw [e] at hj; cases hj; exact Nat.le_refl t
/-- grows(f) -/
theorem d_grows (h : MoL AH m s x r) (ok : x.ok) {f t : Nat} (hf : f < x.n) (ht : t < 36) (hst : s.gr = nI t) {G : Nat → Option Nat} (hG0 : G f = none) (hG : ∀ o j, G o = some j → j < t) (hgo : ∀ i, i < 36 → s.go i = bkV (G i)) {Q : Option Value → xH → Prop} {z : sSt} (hz : spO x f t 36 0 (sp0 G f t) = z) (k : ∀ s' : sMod, s'.gq s → (∀ i, i < 36 → s'.go i = bkV (z.1 i)) → s'.gf = upd s.gf t (nI f) → s'.gs = upd s.gs t (nI z.2.2) → s'.gr = nI t → Q none (modP AH m s')) : XC MX7_grows [.ref m, .int (nI f)] AH Q := by
  have hn := sLat.n36 ok
  have q1 := (sMod.gq.rf s).hp (upd s.hp 0 (nI f))
  have q2 := q1.go (upd s.go f (nI t))
  have h1 := h.q q1
  have h2 := h.q q2
  have e0 : (s.whp (upd s.hp 0 (nI f))).gr = nI t := hst
  have e1 : ((s.whp (upd s.hp 0 (nI f))).wgo (upd s.go f (nI t))).gr = nI t := hst
  refine XC.ofR (L := [some (.ref m), some (.int (nI f)), none, none, none, none]) KX7_grows (by decide +kernel) (by first | decide | exact Nat.le_of_ble_eq_true rfl) rfl ?_
  simp only [eX7_grows_0, eX7_grows_1, eX7_grows_4, eX7_grows_5, eX7_grows_6, eX7_grows_7, eX7_grows_8, eX7_grows_11, eX7_grows_12, eX7_grows_13, eX7_grows_16, eX7_grows_17, eX7_grows_18, eX7_grows_21, eX7_grows_22, eX7_grows_25, eX7_grows_26, eX7_grows_27, eX7_grows_28, eX7_grows_29, eX7_grows_30, eX7_grows_32, eX7_grows_33, eX7_grows_36, eX7_grows_37, eX7_grows_39, eX7_grows_41, eX7_grows_42, eX7_grows_45, eX7_grows_48, eX7_grows_49, eX7_grows_50, eX7_grows_53, eX7_grows_54, eX7_grows_55, eX7_grows_57, eX7_grows_60, eX7_grows_62, eX7_grows_64, eX7_grows_67, eX7_grows_68, eX7_grows_71, eX7_grows_73, eX7_grows_74, eX7_grows_75, eX7_grows_78, eX7_grows_79, eX7_grows_82, eX7_grows_84, eX7_grows_86, eX7_grows_87, eX7_grows_88, eX7_grows_89, eX7_grows_92, eX7_grows_94, eX7_grows_95, eX7_grows_96, eX7_grows_97, eX7_grows_100, eX7_grows_101, eX7_grows_104, eX7_grows_106, eX7_grows_107, eX7_grows_110, eX7_grows_111, eX7_grows_112, eX7_grows_115, eX7_grows_116, eX7_grows_118, eX7_grows_119, eX7_grows_122, eX7_grows_125, eX7_grows_128, eX7_grows_131, eX7_grows_134, eX7_grows_135, eX7_grows_138, eX7_grows_139, eX7_grows_142, eX7_grows_143, eX7_grows_144, Nat.add_zero, Nat.reduceAdd, Nat.reduceLeDiff, Nat.zero_le, and_true, o_aload_0r, o_callV_0, o_callV_2, o_const_e, o_getf_e, o_goto_e, o_iald_e, o_iald_f, o_iast_e, o_icmp_e, o_if_e, o_ii_e, o_iinc_2, o_iinc_3, o_iinc_4, o_iload_1, o_iload_2, o_iload_3, o_iload_4, o_iload_5, o_ist_2, o_ist_3, o_ist_4, o_ist_5, o_vret_e, tl_n, tl_s, true_and, xnlv_i, xnlv_n, xnlv_r, xwt_0, xwt_f, xwt_i, xwt_l, xwt_r, h.1.cls, h.1.g0, h.1.g1, h.1.g2, h.1.g3, h.1.g4, h.1.g5, h.1.g6, h.1.g7, h.1.g8, h.1.g9, h.1.g10, h.1.g11, h.1.g12, h.1.g13, h.1.g14, h.1.g15, h.1.g16, h.1.g17, h.1.g18, h.1.g19, h.i0, h.i1, h.i2, h.i3, h.i4, h.i5, h.i6, h.i7, h.i8, h.i9, h.i10, h.j0, h.j1, h.j2, h.j3, h.j4, h.j5, h.j6, h.j7, h.j8, h.j9, h.j10, z_nI, h.1.w_hp (c := 0) (by decide), h1.1.cls, h1.1.g0, h1.1.g1, h1.1.g2, h1.1.g3, h1.1.g4, h1.1.g5, h1.1.g6, h1.1.g7, h1.1.g8, h1.1.g9, h1.1.g10, h1.1.g11, h1.1.g12, h1.1.g13, h1.1.g14, h1.1.g15, h1.1.g16, h1.1.g17, h1.1.g18, h1.1.g19, h1.i0, h1.i1, h1.i2, h1.i3, h1.i4, h1.i5, h1.i6, h1.i7, h1.i8, h1.i9, h1.i10, h1.j0, h1.j1, h1.j2, h1.j3, h1.j4, h1.j5, h1.j6, h1.j7, h1.j8, h1.j9, h1.j10, e0, h1.1.w_go (c := f) (by omega), modP_modP h.1.lt]
  rw [show (s.whp (upd s.hp 0 (nI f))).go = s.go from rfl]
  simp only [eX7_grows_0, eX7_grows_1, eX7_grows_4, eX7_grows_5, eX7_grows_6, eX7_grows_7, eX7_grows_8, eX7_grows_11, eX7_grows_12, eX7_grows_13, eX7_grows_16, eX7_grows_17, eX7_grows_18, eX7_grows_21, eX7_grows_22, eX7_grows_25, eX7_grows_26, eX7_grows_27, eX7_grows_28, eX7_grows_29, eX7_grows_30, eX7_grows_32, eX7_grows_33, eX7_grows_36, eX7_grows_37, eX7_grows_39, eX7_grows_41, eX7_grows_42, eX7_grows_45, eX7_grows_48, eX7_grows_49, eX7_grows_50, eX7_grows_53, eX7_grows_54, eX7_grows_55, eX7_grows_57, eX7_grows_60, eX7_grows_62, eX7_grows_64, eX7_grows_67, eX7_grows_68, eX7_grows_71, eX7_grows_73, eX7_grows_74, eX7_grows_75, eX7_grows_78, eX7_grows_79, eX7_grows_82, eX7_grows_84, eX7_grows_86, eX7_grows_87, eX7_grows_88, eX7_grows_89, eX7_grows_92, eX7_grows_94, eX7_grows_95, eX7_grows_96, eX7_grows_97, eX7_grows_100, eX7_grows_101, eX7_grows_104, eX7_grows_106, eX7_grows_107, eX7_grows_110, eX7_grows_111, eX7_grows_112, eX7_grows_115, eX7_grows_116, eX7_grows_118, eX7_grows_119, eX7_grows_122, eX7_grows_125, eX7_grows_128, eX7_grows_131, eX7_grows_134, eX7_grows_135, eX7_grows_138, eX7_grows_139, eX7_grows_142, eX7_grows_143, eX7_grows_144, Nat.add_zero, Nat.reduceAdd, Nat.reduceLeDiff, Nat.zero_le, and_true, o_aload_0r, o_callV_0, o_callV_2, o_const_e, o_getf_e, o_goto_e, o_iald_e, o_iald_f, o_iast_e, o_icmp_e, o_if_e, o_ii_e, o_iinc_2, o_iinc_3, o_iinc_4, o_iload_1, o_iload_2, o_iload_3, o_iload_4, o_iload_5, o_ist_2, o_ist_3, o_ist_4, o_ist_5, o_vret_e, tl_n, tl_s, true_and, xnlv_i, xnlv_n, xnlv_r, xwt_0, xwt_f, xwt_i, xwt_l, xwt_r, h2.1.cls, h2.1.g0, h2.1.g1, h2.1.g2, h2.1.g3, h2.1.g4, h2.1.g5, h2.1.g6, h2.1.g7, h2.1.g8, h2.1.g9, h2.1.g10, h2.1.g11, h2.1.g12, h2.1.g13, h2.1.g14, h2.1.g15, h2.1.g16, h2.1.g17, h2.1.g18, h2.1.g19, h2.i0, h2.i1, h2.i2, h2.i3, h2.i4, h2.i5, h2.i6, h2.i7, h2.i8, h2.i9, h2.i10, h2.j0, h2.j1, h2.j2, h2.j3, h2.j4, h2.j5, h2.j6, h2.j7, h2.j8, h2.j9, h2.j10, e1, h2.1.w_gf ht, modP_modP h.1.lt, n1]
  have hR : spR bkV (sp0 G f t) (upd s.go f (nI t)) (upd s.hp 0 (nI f)) := by
    refine ⟨fun i hi => ?_, fun i hi => ?_⟩
    · show upd s.go f (nI t) i = bkV (va_up G f (some t) i)
      unfold upd va_up
      split
      · rfl
      · exact hgo i hi
    · have hi : i < 1 := hi
      show upd s.hp 0 (nI f) i = nI f
      unfold upd
      rw [if_pos (by omega)]
  have hI : kI s (upd s.gf t (nI f)) s.gs t (((s.whp (upd s.hp 0 (nI f))).wgo (upd s.go f (nI t))).wgf (upd s.gf t (nI f))) := ⟨q2.gf _, rfl, rfl, hst⟩
  refine k_spO h ok hf ht 36 0 (by omega) (sp0 G f t) (sp0_ok ok hf hG0) (fun o j hj => ?_) (fun s' w3 w4 w5 hs hR2 => ?_) _ none none hI hR
  · have hj : va_up G f (some t) o = some j := hj
    unfold va_up at hj
    split at hj
    · cases hj; exact Nat.le_refl t
    · exact Nat.le_of_lt (hG o j hj)
  · rw [hz] at hR2 ⊢
    have hA := h.q hs.1
    have e3 := hs.2.2.2
    simp only [eX7_grows_0, eX7_grows_1, eX7_grows_4, eX7_grows_5, eX7_grows_6, eX7_grows_7, eX7_grows_8, eX7_grows_11, eX7_grows_12, eX7_grows_13, eX7_grows_16, eX7_grows_17, eX7_grows_18, eX7_grows_21, eX7_grows_22, eX7_grows_25, eX7_grows_26, eX7_grows_27, eX7_grows_28, eX7_grows_29, eX7_grows_30, eX7_grows_32, eX7_grows_33, eX7_grows_36, eX7_grows_37, eX7_grows_39, eX7_grows_41, eX7_grows_42, eX7_grows_45, eX7_grows_48, eX7_grows_49, eX7_grows_50, eX7_grows_53, eX7_grows_54, eX7_grows_55, eX7_grows_57, eX7_grows_60, eX7_grows_62, eX7_grows_64, eX7_grows_67, eX7_grows_68, eX7_grows_71, eX7_grows_73, eX7_grows_74, eX7_grows_75, eX7_grows_78, eX7_grows_79, eX7_grows_82, eX7_grows_84, eX7_grows_86, eX7_grows_87, eX7_grows_88, eX7_grows_89, eX7_grows_92, eX7_grows_94, eX7_grows_95, eX7_grows_96, eX7_grows_97, eX7_grows_100, eX7_grows_101, eX7_grows_104, eX7_grows_106, eX7_grows_107, eX7_grows_110, eX7_grows_111, eX7_grows_112, eX7_grows_115, eX7_grows_116, eX7_grows_118, eX7_grows_119, eX7_grows_122, eX7_grows_125, eX7_grows_128, eX7_grows_131, eX7_grows_134, eX7_grows_135, eX7_grows_138, eX7_grows_139, eX7_grows_142, eX7_grows_143, eX7_grows_144, Nat.add_zero, Nat.reduceAdd, Nat.reduceLeDiff, Nat.zero_le, and_true, o_aload_0r, o_callV_0, o_callV_2, o_const_e, o_getf_e, o_goto_e, o_iald_e, o_iald_f, o_iast_e, o_icmp_e, o_if_e, o_ii_e, o_iinc_2, o_iinc_3, o_iinc_4, o_iload_1, o_iload_2, o_iload_3, o_iload_4, o_iload_5, o_ist_2, o_ist_3, o_ist_4, o_ist_5, o_vret_e, tl_n, tl_s, true_and, xnlv_i, xnlv_n, xnlv_r, xwt_0, xwt_f, xwt_i, xwt_l, xwt_r, hA.1.cls, hA.1.g0, hA.1.g1, hA.1.g2, hA.1.g3, hA.1.g4, hA.1.g5, hA.1.g6, hA.1.g7, hA.1.g8, hA.1.g9, hA.1.g10, hA.1.g11, hA.1.g12, hA.1.g13, hA.1.g14, hA.1.g15, hA.1.g16, hA.1.g17, hA.1.g18, hA.1.g19, hA.i0, hA.i1, hA.i2, hA.i3, hA.i4, hA.i5, hA.i6, hA.i7, hA.i8, hA.i9, hA.i10, hA.j0, hA.j1, hA.j2, hA.j3, hA.j4, hA.j5, hA.j6, hA.j7, hA.j8, hA.j9, hA.j10, e3, hA.1.w_gs ht, modP_modP h.1.lt]
    exact k _ (hs.1.gs _) hR2.1 hs.2.1 (congrArg (fun g => upd g t (nI z.2.2)) hs.2.2.1) hs.2.2.2
/-- behind findsGrains -/
def MgOK (x : sLat) (s : sMod) : Prop := (∀ i, i < 36 → s.go i = bkV (x.G i)) ∧ (∀ i, i < x.gT → s.gf i = nI (x.gL i)) ∧ (∀ i, i < x.gT → s.gs i = nI (x.gS i)) ∧ s.gr = nI x.gT
def MgTo (x : sLat) (c : Nat) (s : sMod) : Prop := (∀ i, i < 36 → s.go i = bkV ((fS x c).1 i)) ∧ (∀ i, i < (fS x c).2.1 → s.gf i = nI ((fS x c).2.2.1 i)) ∧ (∀ i, i < (fS x c).2.1 → s.gs i = nI ((fS x c).2.2.2 i)) ∧ s.gr = nI (fS x c).2.1
theorem k_find (h : MoL AH m s x r) (ok : x.ok) {Q : xQ} (k : ∀ s' : sMod, s'.gq s → MgOK x s' → Q none (modP AH m s') (0, 0)) : ∀ (n c : Nat), c + n = x.n → ∀ s' : sMod, s'.gq s → MgTo x c s' →
    XR TX7_findsGrains 28 [some (.ref m), some (.int (nI c))] [] (modP AH m s') (0, 0) Q := by
  have hn := sLat.n36 ok
  intro n
  induction n with
  | zero =>
    intro c hc s' hs hR
    have hA := h.q hs
    rw [eX7_findsGrains_28]
    simp only [eX7_findsGrains_0, eX7_findsGrains_1, eX7_findsGrains_2, eX7_findsGrains_3, eX7_findsGrains_5, eX7_findsGrains_8, eX7_findsGrains_9, eX7_findsGrains_12, eX7_findsGrains_13, eX7_findsGrains_14, eX7_findsGrains_15, eX7_findsGrains_18, eX7_findsGrains_21, eX7_findsGrains_22, eX7_findsGrains_23, eX7_findsGrains_26, eX7_findsGrains_27, eX7_findsGrains_29, eX7_findsGrains_30, eX7_findsGrains_33, eX7_findsGrains_36, eX7_findsGrains_37, eX7_findsGrains_40, eX7_findsGrains_41, eX7_findsGrains_42, eX7_findsGrains_43, eX7_findsGrains_46, eX7_findsGrains_47, eX7_findsGrains_48, eX7_findsGrains_51, eX7_findsGrains_52, eX7_findsGrains_53, eX7_findsGrains_56, eX7_findsGrains_57, eX7_findsGrains_58, eX7_findsGrains_61, eX7_findsGrains_64, eX7_findsGrains_67, Nat.add_zero, Nat.reduceAdd, Nat.reduceLeDiff, Nat.zero_le, and_true, o_aload_0r, o_callV_0, o_callV_1, o_const_e, o_dup_e, o_getf_e, o_goto_e, o_iald_e, o_iald_f, o_iast_e, o_icmp_e, o_ii_e, o_iinc_1, o_iload_1, o_ist_1, o_putf_e, o_vret_e, tl_n, tl_s, true_and, xc1_i, xc1_r, xfit_a, xfit_i, xfit_l, xfit_o, xnlv_i, xnlv_n, xnlv_r, xwt_0, xwt_f, xwt_i, xwt_l, xwt_r, hA.1.cls, hA.1.g0, hA.1.g1, hA.1.g2, hA.1.g3, hA.1.g4, hA.1.g5, hA.1.g6, hA.1.g7, hA.1.g8, hA.1.g9, hA.1.g10, hA.1.g11, hA.1.g12, hA.1.g13, hA.1.g14, hA.1.g15, hA.1.g16, hA.1.g17, hA.1.g18, hA.1.g19, hA.i0, hA.i1, hA.i2, hA.i3, hA.i4, hA.i5, hA.i6, hA.i7, hA.i8, hA.i9, hA.i10, hA.j0, hA.j1, hA.j2, hA.j3, hA.j4, hA.j5, hA.j6, hA.j7, hA.j8, hA.j9, hA.j10]
    refine d_cells hA ?_
    simp only [eX7_findsGrains_0, eX7_findsGrains_1, eX7_findsGrains_2, eX7_findsGrains_3, eX7_findsGrains_5, eX7_findsGrains_8, eX7_findsGrains_9, eX7_findsGrains_12, eX7_findsGrains_13, eX7_findsGrains_14, eX7_findsGrains_15, eX7_findsGrains_18, eX7_findsGrains_21, eX7_findsGrains_22, eX7_findsGrains_23, eX7_findsGrains_26, eX7_findsGrains_27, eX7_findsGrains_29, eX7_findsGrains_30, eX7_findsGrains_33, eX7_findsGrains_36, eX7_findsGrains_37, eX7_findsGrains_40, eX7_findsGrains_41, eX7_findsGrains_42, eX7_findsGrains_43, eX7_findsGrains_46, eX7_findsGrains_47, eX7_findsGrains_48, eX7_findsGrains_51, eX7_findsGrains_52, eX7_findsGrains_53, eX7_findsGrains_56, eX7_findsGrains_57, eX7_findsGrains_58, eX7_findsGrains_61, eX7_findsGrains_64, eX7_findsGrains_67, Nat.add_zero, Nat.reduceAdd, Nat.reduceLeDiff, Nat.zero_le, and_true, o_aload_0r, o_callV_0, o_callV_1, o_const_e, o_dup_e, o_getf_e, o_goto_e, o_iald_e, o_iald_f, o_iast_e, o_icmp_e, o_ii_e, o_iinc_1, o_iload_1, o_ist_1, o_putf_e, o_vret_e, tl_n, tl_s, true_and, xc1_i, xc1_r, xfit_a, xfit_i, xfit_l, xfit_o, xnlv_i, xnlv_n, xnlv_r, xwt_0, xwt_f, xwt_i, xwt_l, xwt_r, le_nI (a := x.n) (b := c) (by omega) (by omega)]
    refine ⟨fun _ => ?_, fun g => by omega⟩
    have e : c = x.n := by omega
    subst e
    exact k _ hs hR
  | succ n ih =>
    intro c hc s' hs hR
    have hA := h.q hs
    have ht := fS_t (x := x) c
    have ih := ih (c + 1) (by omega)
    rw [eX7_findsGrains_28]
    simp only [eX7_findsGrains_0, eX7_findsGrains_1, eX7_findsGrains_2, eX7_findsGrains_3, eX7_findsGrains_5, eX7_findsGrains_8, eX7_findsGrains_9, eX7_findsGrains_12, eX7_findsGrains_13, eX7_findsGrains_14, eX7_findsGrains_15, eX7_findsGrains_18, eX7_findsGrains_21, eX7_findsGrains_22, eX7_findsGrains_23, eX7_findsGrains_26, eX7_findsGrains_27, eX7_findsGrains_29, eX7_findsGrains_30, eX7_findsGrains_33, eX7_findsGrains_36, eX7_findsGrains_37, eX7_findsGrains_40, eX7_findsGrains_41, eX7_findsGrains_42, eX7_findsGrains_43, eX7_findsGrains_46, eX7_findsGrains_47, eX7_findsGrains_48, eX7_findsGrains_51, eX7_findsGrains_52, eX7_findsGrains_53, eX7_findsGrains_56, eX7_findsGrains_57, eX7_findsGrains_58, eX7_findsGrains_61, eX7_findsGrains_64, eX7_findsGrains_67, Nat.add_zero, Nat.reduceAdd, Nat.reduceLeDiff, Nat.zero_le, and_true, o_aload_0r, o_callV_0, o_callV_1, o_const_e, o_dup_e, o_getf_e, o_goto_e, o_iald_e, o_iald_f, o_iast_e, o_icmp_e, o_ii_e, o_iinc_1, o_iload_1, o_ist_1, o_putf_e, o_vret_e, tl_n, tl_s, true_and, xc1_i, xc1_r, xfit_a, xfit_i, xfit_l, xfit_o, xnlv_i, xnlv_n, xnlv_r, xwt_0, xwt_f, xwt_i, xwt_l, xwt_r, hA.1.cls, hA.1.g0, hA.1.g1, hA.1.g2, hA.1.g3, hA.1.g4, hA.1.g5, hA.1.g6, hA.1.g7, hA.1.g8, hA.1.g9, hA.1.g10, hA.1.g11, hA.1.g12, hA.1.g13, hA.1.g14, hA.1.g15, hA.1.g16, hA.1.g17, hA.1.g18, hA.1.g19, hA.i0, hA.i1, hA.i2, hA.i3, hA.i4, hA.i5, hA.i6, hA.i7, hA.i8, hA.i9, hA.i10, hA.j0, hA.j1, hA.j2, hA.j3, hA.j4, hA.j5, hA.j6, hA.j7, hA.j8, hA.j9, hA.j10]
    refine d_cells hA ?_
    simp only [eX7_findsGrains_0, eX7_findsGrains_1, eX7_findsGrains_2, eX7_findsGrains_3, eX7_findsGrains_5, eX7_findsGrains_8, eX7_findsGrains_9, eX7_findsGrains_12, eX7_findsGrains_13, eX7_findsGrains_14, eX7_findsGrains_15, eX7_findsGrains_18, eX7_findsGrains_21, eX7_findsGrains_22, eX7_findsGrains_23, eX7_findsGrains_26, eX7_findsGrains_27, eX7_findsGrains_29, eX7_findsGrains_30, eX7_findsGrains_33, eX7_findsGrains_36, eX7_findsGrains_37, eX7_findsGrains_40, eX7_findsGrains_41, eX7_findsGrains_42, eX7_findsGrains_43, eX7_findsGrains_46, eX7_findsGrains_47, eX7_findsGrains_48, eX7_findsGrains_51, eX7_findsGrains_52, eX7_findsGrains_53, eX7_findsGrains_56, eX7_findsGrains_57, eX7_findsGrains_58, eX7_findsGrains_61, eX7_findsGrains_64, eX7_findsGrains_67, Nat.add_zero, Nat.reduceAdd, Nat.reduceLeDiff, Nat.zero_le, and_true, o_aload_0r, o_callV_0, o_callV_1, o_const_e, o_dup_e, o_getf_e, o_goto_e, o_iald_e, o_iald_f, o_iast_e, o_icmp_e, o_ii_e, o_iinc_1, o_iload_1, o_ist_1, o_putf_e, o_vret_e, tl_n, tl_s, true_and, xc1_i, xc1_r, xfit_a, xfit_i, xfit_l, xfit_o, xnlv_i, xnlv_n, xnlv_r, xwt_0, xwt_f, xwt_i, xwt_l, xwt_r, le_nI (a := x.n) (b := c) (by omega) (by omega), hA.1.cls, hA.1.g0, hA.1.g1, hA.1.g2, hA.1.g3, hA.1.g4, hA.1.g5, hA.1.g6, hA.1.g7, hA.1.g8, hA.1.g9, hA.1.g10, hA.1.g11, hA.1.g12, hA.1.g13, hA.1.g14, hA.1.g15, hA.1.g16, hA.1.g17, hA.1.g18, hA.1.g19, hA.i0, hA.i1, hA.i2, hA.i3, hA.i4, hA.i5, hA.i6, hA.i7, hA.i8, hA.i9, hA.i10, hA.j0, hA.j1, hA.j2, hA.j3, hA.j4, hA.j5, hA.j6, hA.j7, hA.j8, hA.j9, hA.j10, hA.1.r_go (c := c) (by omega)]
    refine ⟨fun g => by omega, fun _ => ?_⟩
    rw [hR.1 c (by omega), bkV_neg _ (fun j hj => by have := (fS_G c).1 c j hj; omega)]
    unfold MgTo at ih
    rw [fS_s] at ih
    have hGl := (fS_G (x := x) c).1
    obtain ⟨R1, R2, R3, R4⟩ := hR
    generalize hF : fS x c = F at *
    obtain ⟨G, t, L, S⟩ := F
    dsimp only at ih R1 R2 R3 R4 ht hGl ⊢
    refine ⟨fun g1 => ?_, fun g1 => ?_⟩
    · rw [if_neg g1] at ih
      rw [n1, nI_add]
      exact ih s' hs ⟨R1, R2, R3, R4⟩
    · have g1 := Classical.not_not.mp g1
      rw [if_pos g1] at ih
      dsimp only at ih
      generalize hz : spO x c t 36 0 (sp0 G c t) = z at *
      refine d_grows hA ok (by omega) (by omega) R4 g1 (fun o j hj => hGl o j hj) R1 hz (fun s2 q2 a1 a2 a3 a4 => ?_)
      rw [modP_modP h.1.lt]
      have q3 := q2.tr hs
      have hB := h.q q3
      simp only [eX7_findsGrains_0, eX7_findsGrains_1, eX7_findsGrains_2, eX7_findsGrains_3, eX7_findsGrains_5, eX7_findsGrains_8, eX7_findsGrains_9, eX7_findsGrains_12, eX7_findsGrains_13, eX7_findsGrains_14, eX7_findsGrains_15, eX7_findsGrains_18, eX7_findsGrains_21, eX7_findsGrains_22, eX7_findsGrains_23, eX7_findsGrains_26, eX7_findsGrains_27, eX7_findsGrains_29, eX7_findsGrains_30, eX7_findsGrains_33, eX7_findsGrains_36, eX7_findsGrains_37, eX7_findsGrains_40, eX7_findsGrains_41, eX7_findsGrains_42, eX7_findsGrains_43, eX7_findsGrains_46, eX7_findsGrains_47, eX7_findsGrains_48, eX7_findsGrains_51, eX7_findsGrains_52, eX7_findsGrains_53, eX7_findsGrains_56, eX7_findsGrains_57, eX7_findsGrains_58, eX7_findsGrains_61, eX7_findsGrains_64, eX7_findsGrains_67, Nat.add_zero, Nat.reduceAdd, Nat.reduceLeDiff, Nat.zero_le, and_true, o_aload_0r, o_callV_0, o_callV_1, o_const_e, o_dup_e, o_getf_e, o_goto_e, o_iald_e, o_iald_f, o_iast_e, o_icmp_e, o_ii_e, o_iinc_1, o_iload_1, o_ist_1, o_putf_e, o_vret_e, tl_n, tl_s, true_and, xc1_i, xc1_r, xfit_a, xfit_i, xfit_l, xfit_o, xnlv_i, xnlv_n, xnlv_r, xwt_0, xwt_f, xwt_i, xwt_l, xwt_r, hB.1.cls, hB.1.g0, hB.1.g1, hB.1.g2, hB.1.g3, hB.1.g4, hB.1.g5, hB.1.g6, hB.1.g7, hB.1.g8, hB.1.g9, hB.1.g10, hB.1.g11, hB.1.g12, hB.1.g13, hB.1.g14, hB.1.g15, hB.1.g16, hB.1.g17, hB.1.g18, hB.1.g19, hB.i0, hB.i1, hB.i2, hB.i3, hB.i4, hB.i5, hB.i6, hB.i7, hB.i8, hB.i9, hB.i10, hB.j0, hB.j1, hB.j2, hB.j3, hB.j4, hB.j5, hB.j6, hB.j7, hB.j8, hB.j9, hB.j10, a4, hB.1.p_gr, modP_modP h.1.lt, n1, nI_add]
      refine ih _ (q3.gr _) ⟨a1, fun i hi => ?_, fun i hi => ?_, rfl⟩
      · show s2.gf i = _
        rw [a2]
        unfold upd va_up
        split
        · rfl
        · exact R2 i (by omega)
      · show s2.gs i = _
        rw [a3]
        unfold upd va_up
        split
        · rfl
        · exact R3 i (by omega)
theorem k_find0 (h : MoL AH m s x r) {Q : xQ} : ∀ (n j : Nat), j + n = 36 → ∀ go : Nat → Int32, (∀ i, i < j → go i = -1) → (∀ go : Nat → Int32, (∀ i, i < 36 → go i = -1) → ∀ w : Option Value, XR TX7_findsGrains 21 [some (.ref m), w] [] (modP AH m (s.wgo go)) (0, 0) Q) →
    XR TX7_findsGrains 2 [some (.ref m), some (.int (nI j))] [] (modP AH m (s.wgo go)) (0, 0) Q := by
  intro n
  induction n with
  | zero =>
    intro j hj go hgo k
    rw [eX7_findsGrains_2]
    simp only [eX7_findsGrains_0, eX7_findsGrains_1, eX7_findsGrains_3, eX7_findsGrains_5, eX7_findsGrains_8, eX7_findsGrains_9, eX7_findsGrains_12, eX7_findsGrains_13, eX7_findsGrains_14, eX7_findsGrains_15, eX7_findsGrains_18, eX7_findsGrains_22, eX7_findsGrains_23, eX7_findsGrains_26, eX7_findsGrains_27, eX7_findsGrains_28, eX7_findsGrains_29, eX7_findsGrains_30, eX7_findsGrains_33, eX7_findsGrains_36, eX7_findsGrains_37, eX7_findsGrains_40, eX7_findsGrains_41, eX7_findsGrains_42, eX7_findsGrains_43, eX7_findsGrains_46, eX7_findsGrains_47, eX7_findsGrains_48, eX7_findsGrains_51, eX7_findsGrains_52, eX7_findsGrains_53, eX7_findsGrains_56, eX7_findsGrains_57, eX7_findsGrains_58, eX7_findsGrains_61, eX7_findsGrains_64, eX7_findsGrains_67, Nat.add_zero, Nat.reduceAdd, Nat.reduceLeDiff, Nat.zero_le, and_true, o_aload_0r, o_callV_0, o_callV_1, o_const_e, o_dup_e, o_getf_e, o_goto_e, o_iald_e, o_iald_f, o_iast_e, o_icmp_e, o_ii_e, o_iinc_1, o_iload_1, o_ist_1, o_putf_e, o_vret_e, tl_n, tl_s, true_and, xc1_i, xc1_r, xfit_a, xfit_i, xfit_l, xfit_o, xnlv_i, xnlv_n, xnlv_r, xwt_0, xwt_f, xwt_i, xwt_l, xwt_r, n36, le_nI (a := 36) (b := j) (by omega) (by omega)]
    exact ⟨fun _ => k go (fun i hi => hgo i (by omega)) _, fun g => by omega⟩
  | succ n ih =>
    intro j hj go hgo k
    have hA := h.q ((sMod.gq.rf s).go go)
    rw [eX7_findsGrains_2]
    simp only [eX7_findsGrains_0, eX7_findsGrains_1, eX7_findsGrains_3, eX7_findsGrains_5, eX7_findsGrains_8, eX7_findsGrains_9, eX7_findsGrains_12, eX7_findsGrains_13, eX7_findsGrains_14, eX7_findsGrains_15, eX7_findsGrains_18, eX7_findsGrains_22, eX7_findsGrains_23, eX7_findsGrains_26, eX7_findsGrains_27, eX7_findsGrains_28, eX7_findsGrains_29, eX7_findsGrains_30, eX7_findsGrains_33, eX7_findsGrains_36, eX7_findsGrains_37, eX7_findsGrains_40, eX7_findsGrains_41, eX7_findsGrains_42, eX7_findsGrains_43, eX7_findsGrains_46, eX7_findsGrains_47, eX7_findsGrains_48, eX7_findsGrains_51, eX7_findsGrains_52, eX7_findsGrains_53, eX7_findsGrains_56, eX7_findsGrains_57, eX7_findsGrains_58, eX7_findsGrains_61, eX7_findsGrains_64, eX7_findsGrains_67, Nat.add_zero, Nat.reduceAdd, Nat.reduceLeDiff, Nat.zero_le, and_true, o_aload_0r, o_callV_0, o_callV_1, o_const_e, o_dup_e, o_getf_e, o_goto_e, o_iald_e, o_iald_f, o_iast_e, o_icmp_e, o_ii_e, o_iinc_1, o_iload_1, o_ist_1, o_putf_e, o_vret_e, tl_n, tl_s, true_and, xc1_i, xc1_r, xfit_a, xfit_i, xfit_l, xfit_o, xnlv_i, xnlv_n, xnlv_r, xwt_0, xwt_f, xwt_i, xwt_l, xwt_r, hA.1.cls, hA.1.g0, hA.1.g1, hA.1.g2, hA.1.g3, hA.1.g4, hA.1.g5, hA.1.g6, hA.1.g7, hA.1.g8, hA.1.g9, hA.1.g10, hA.1.g11, hA.1.g12, hA.1.g13, hA.1.g14, hA.1.g15, hA.1.g16, hA.1.g17, hA.1.g18, hA.1.g19, hA.i0, hA.i1, hA.i2, hA.i3, hA.i4, hA.i5, hA.i6, hA.i7, hA.i8, hA.i9, hA.i10, hA.j0, hA.j1, hA.j2, hA.j3, hA.j4, hA.j5, hA.j6, hA.j7, hA.j8, hA.j9, hA.j10, n36, le_nI (a := 36) (b := j) (by omega) (by omega), hA.1.w_go (c := j) (by omega), modP_modP h.1.lt, n1, nI_add]
    refine ⟨fun g => by omega, fun _ => ih (j + 1) (by omega) (upd go j (-1)) (fun i hi => ?_) k⟩
    unfold upd
    split
    · rfl
    · exact hgo i (by omega)
/-- findsGrains() -/
theorem d_find (h : MoL AH m s x r) (ok : x.ok) {Q : Option Value → xH → Prop} (k : ∀ s' : sMod, s'.gq s → MgOK x s' → Q none (modP AH m s')) : XC MX7_findsGrains [.ref m] AH Q := by
  refine XC.ofR (L := [some (.ref m), none]) KX7_findsGrains (by decide +kernel) (by first | decide | exact Nat.le_of_ble_eq_true rfl) rfl ?_
  simp only [eX7_findsGrains_0, eX7_findsGrains_1, eX7_findsGrains_3, eX7_findsGrains_5, eX7_findsGrains_8, eX7_findsGrains_9, eX7_findsGrains_12, eX7_findsGrains_13, eX7_findsGrains_14, eX7_findsGrains_15, eX7_findsGrains_18, eX7_findsGrains_21, eX7_findsGrains_22, eX7_findsGrains_23, eX7_findsGrains_26, eX7_findsGrains_27, eX7_findsGrains_28, eX7_findsGrains_29, eX7_findsGrains_30, eX7_findsGrains_33, eX7_findsGrains_36, eX7_findsGrains_37, eX7_findsGrains_40, eX7_findsGrains_41, eX7_findsGrains_42, eX7_findsGrains_43, eX7_findsGrains_46, eX7_findsGrains_47, eX7_findsGrains_48, eX7_findsGrains_51, eX7_findsGrains_52, eX7_findsGrains_53, eX7_findsGrains_56, eX7_findsGrains_57, eX7_findsGrains_58, eX7_findsGrains_61, eX7_findsGrains_64, eX7_findsGrains_67, Nat.add_zero, Nat.reduceAdd, Nat.reduceLeDiff, Nat.zero_le, and_true, o_aload_0r, o_callV_0, o_callV_1, o_const_e, o_dup_e, o_getf_e, o_goto_e, o_iald_e, o_iald_f, o_iast_e, o_icmp_e, o_ii_e, o_iinc_1, o_iload_1, o_ist_1, o_putf_e, o_vret_e, tl_n, tl_s, true_and, xc1_i, xc1_r, xfit_a, xfit_i, xfit_l, xfit_o, xnlv_i, xnlv_n, xnlv_r, xwt_0, xwt_f, xwt_i, xwt_l, xwt_r]
  have := k_find0 h (Q := fun v AH' _ => Q v AH') 36 0 (by omega) s.go (fun i hi => by omega) (fun go hgo w => ?_)
  · rw [show s.wgo s.go = s from rfl, modP_self h.1] at this
    exact this
  · have hA := h.q ((sMod.gq.rf s).go go)
    simp only [eX7_findsGrains_0, eX7_findsGrains_1, eX7_findsGrains_2, eX7_findsGrains_3, eX7_findsGrains_5, eX7_findsGrains_8, eX7_findsGrains_9, eX7_findsGrains_12, eX7_findsGrains_13, eX7_findsGrains_14, eX7_findsGrains_15, eX7_findsGrains_18, eX7_findsGrains_21, eX7_findsGrains_22, eX7_findsGrains_23, eX7_findsGrains_26, eX7_findsGrains_27, eX7_findsGrains_29, eX7_findsGrains_30, eX7_findsGrains_33, eX7_findsGrains_36, eX7_findsGrains_37, eX7_findsGrains_40, eX7_findsGrains_41, eX7_findsGrains_42, eX7_findsGrains_43, eX7_findsGrains_46, eX7_findsGrains_47, eX7_findsGrains_48, eX7_findsGrains_51, eX7_findsGrains_52, eX7_findsGrains_53, eX7_findsGrains_56, eX7_findsGrains_57, eX7_findsGrains_58, eX7_findsGrains_61, eX7_findsGrains_64, eX7_findsGrains_67, Nat.add_zero, Nat.reduceAdd, Nat.reduceLeDiff, Nat.zero_le, and_true, o_aload_0r, o_callV_0, o_callV_1, o_const_e, o_dup_e, o_getf_e, o_goto_e, o_iald_e, o_iald_f, o_iast_e, o_icmp_e, o_ii_e, o_iinc_1, o_iload_1, o_ist_1, o_putf_e, o_vret_e, tl_n, tl_s, true_and, xc1_i, xc1_r, xfit_a, xfit_i, xfit_l, xfit_o, xnlv_i, xnlv_n, xnlv_r, xwt_0, xwt_f, xwt_i, xwt_l, xwt_r, hA.1.cls, hA.1.g0, hA.1.g1, hA.1.g2, hA.1.g3, hA.1.g4, hA.1.g5, hA.1.g6, hA.1.g7, hA.1.g8, hA.1.g9, hA.1.g10, hA.1.g11, hA.1.g12, hA.1.g13, hA.1.g14, hA.1.g15, hA.1.g16, hA.1.g17, hA.1.g18, hA.1.g19, hA.i0, hA.i1, hA.i2, hA.i3, hA.i4, hA.i5, hA.i6, hA.i7, hA.i8, hA.i9, hA.i10, hA.j0, hA.j1, hA.j2, hA.j3, hA.j4, hA.j5, hA.j6, hA.j7, hA.j8, hA.j9, hA.j10, hA.1.p_gr, modP_modP h.1.lt]
    refine k_find h ok (Q := fun v AH' _ => Q v AH') k x.n 0 (by omega) _ (((sMod.gq.rf s).go go).gr 0) ⟨fun i hi => hgo i hi, fun i hi => absurd hi (Nat.not_lt_zero i), fun i hi => absurd hi (Nat.not_lt_zero i), rfl⟩
end GROWS
