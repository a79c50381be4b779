/-! the class finds its grains -/
section SPO
variable {AH : xH} {g b : Nat} {s : sGra} {x : sLat} {lk pr : Nat → Int32}
theorem l_spO (hg : GraAt AH g s) (hl : LatAt AH b x lk pr) (sep : b + 5 ≤ g ∨ g + 6 ≤ b) (ok : x.ok) (hk : LkOK x lk) {f t : Nat} (hf : f < x.n) (ht : t < 36) (hst : s.tt = nI t) {Q : xQ} : ∀ (k i : Nat), i + k = 36 → ∀ (a : sSt), spOK x a → (∀ o j, a.1 o = some j → j ≤ t) → (∀ (go qu : Nat → Int32) (w4 w5 w6 w7 : Option Value), spR lkV (spO x f t k i a) go qu → XR TX0_spread 149 [some (.ref g), some (.ref b), some (.int (nI f)), some (.int (nI (spO x f t k i a).2.2)), w4, w5, w6, w7] [] (graP AH g ((s.wgo go).wqu qu)) (0, 0) Q) → ∀ (go qu : Nat → Int32) (w5 w6 w7 : Option Value), spR lkV a go qu → xnlv w5 → xnlv w6 →
    XR TX0_spread 22 [some (.ref g), some (.ref b), some (.int (nI f)), some (.int (nI a.2.2)), some (.int (nI i)), w5, w6, w7] [] (graP AH g ((s.wgo go).wqu qu)) (0, 0) Q := by
  have hn := sLat.n36 ok
  intro k
  induction k with
  | zero =>
    intro i hi a ha hG kk go qu w5 w6 w7 hR v5 v6
    have hA := hg.put ((s.wgo go).wqu qu)
    have hle := ha.le
    rw [eX0_spread_22]
    simp only [eX0_spread_0, eX0_spread_1, eX0_spread_4, eX0_spread_5, eX0_spread_6, eX0_spread_7, eX0_spread_8, eX0_spread_11, eX0_spread_12, eX0_spread_13, eX0_spread_16, eX0_spread_17, eX0_spread_18, eX0_spread_19, eX0_spread_20, eX0_spread_24, eX0_spread_25, eX0_spread_28, eX0_spread_30, eX0_spread_31, eX0_spread_34, eX0_spread_35, eX0_spread_38, eX0_spread_39, eX0_spread_42, eX0_spread_44, eX0_spread_45, eX0_spread_47, eX0_spread_48, eX0_spread_50, eX0_spread_52, eX0_spread_56, eX0_spread_58, eX0_spread_59, eX0_spread_62, eX0_spread_63, eX0_spread_66, eX0_spread_67, eX0_spread_70, eX0_spread_72, eX0_spread_73, eX0_spread_75, eX0_spread_77, eX0_spread_80, eX0_spread_81, eX0_spread_84, eX0_spread_86, eX0_spread_87, eX0_spread_90, eX0_spread_91, eX0_spread_92, eX0_spread_95, eX0_spread_96, eX0_spread_99, eX0_spread_100, eX0_spread_103, eX0_spread_105, eX0_spread_106, eX0_spread_107, eX0_spread_110, eX0_spread_111, eX0_spread_112, eX0_spread_115, eX0_spread_116, eX0_spread_119, eX0_spread_121, eX0_spread_122, eX0_spread_125, eX0_spread_126, eX0_spread_127, eX0_spread_130, eX0_spread_131, eX0_spread_133, eX0_spread_134, eX0_spread_137, eX0_spread_140, eX0_spread_143, eX0_spread_146, eX0_spread_150, eX0_spread_153, eX0_spread_154, eX0_spread_157, eX0_spread_158, eX0_spread_159, eX0_spread_160, eX0_spread_163, eX0_spread_164, eX0_spread_167, eX0_spread_168, eX0_spread_169, eX0_spread_170, eX0_spread_171, eX0_spread_174, eX0_spread_175, eX0_spread_176, eX0_spread_179, Nat.add_zero, Nat.reduceAdd, Nat.reduceLeDiff, Nat.zero_le, and_true, o_alen_e, o_aload_0r, o_aload_1r, o_callV_0, o_const_e, o_dup_e, o_getf_e, o_goto_e, o_iald_e, o_iald_f, o_iast_e, o_icmp_e, o_if_e, o_ii_e, o_iinc_3, o_iinc_4, o_iinc_6, o_iload_2, o_iload_3, o_iload_4, o_iload_5, o_iload_6, o_iload_7, o_ist_3, o_ist_4, o_ist_5, o_ist_6, o_ist_7, o_putf_e, o_vret_e, tl_n, tl_s, true_and, xc1_i, xc1_r, xfit_a, xfit_i, xfit_l, xfit_o, xnlv_i, xnlv_n, xnlv_r, xwt_0, xwt_f, xwt_i, xwt_l, xwt_r, hA.cls, hA.g0, hA.g1, hA.g2, hA.g3, hA.g4, hA.g5, le_nI (a := a.2.2) (b := i) (by omega) (by omega)]
    exact ⟨fun _ => kk go qu _ _ _ _ hR, fun z => by omega⟩
  | succ k ih =>
    intro i hi a ha hG kk go qu w5 w6 w7 hR v5 v6
    have hA := hg.put ((s.wgo go).wqu qu)
    have hle := ha.le
    rw [eX0_spread_22]
    simp only [eX0_spread_0, eX0_spread_1, eX0_spread_4, eX0_spread_5, eX0_spread_6, eX0_spread_7, eX0_spread_8, eX0_spread_11, eX0_spread_12, eX0_spread_13, eX0_spread_16, eX0_spread_17, eX0_spread_18, eX0_spread_19, eX0_spread_20, eX0_spread_24, eX0_spread_25, eX0_spread_28, eX0_spread_30, eX0_spread_31, eX0_spread_34, eX0_spread_35, eX0_spread_38, eX0_spread_39, eX0_spread_42, eX0_spread_44, eX0_spread_45, eX0_spread_47, eX0_spread_48, eX0_spread_50, eX0_spread_52, eX0_spread_56, eX0_spread_58, eX0_spread_59, eX0_spread_62, eX0_spread_63, eX0_spread_66, eX0_spread_67, eX0_spread_70, eX0_spread_72, eX0_spread_73, eX0_spread_75, eX0_spread_77, eX0_spread_80, eX0_spread_81, eX0_spread_84, eX0_spread_86, eX0_spread_87, eX0_spread_90, eX0_spread_91, eX0_spread_92, eX0_spread_95, eX0_spread_96, eX0_spread_99, eX0_spread_100, eX0_spread_103, eX0_spread_105, eX0_spread_106, eX0_spread_107, eX0_spread_110, eX0_spread_111, eX0_spread_112, eX0_spread_115, eX0_spread_116, eX0_spread_119, eX0_spread_121, eX0_spread_122, eX0_spread_125, eX0_spread_126, eX0_spread_127, eX0_spread_130, eX0_spread_131, eX0_spread_133, eX0_spread_134, eX0_spread_137, eX0_spread_140, eX0_spread_143, eX0_spread_146, eX0_spread_150, eX0_spread_153, eX0_spread_154, eX0_spread_157, eX0_spread_158, eX0_spread_159, eX0_spread_160, eX0_spread_163, eX0_spread_164, eX0_spread_167, eX0_spread_168, eX0_spread_169, eX0_spread_170, eX0_spread_171, eX0_spread_174, eX0_spread_175, eX0_spread_176, eX0_spread_179, Nat.add_zero, Nat.reduceAdd, Nat.reduceLeDiff, Nat.zero_le, and_true, o_alen_e, o_aload_0r, o_aload_1r, o_callV_0, o_const_e, o_dup_e, o_getf_e, o_goto_e, o_iald_e, o_iald_f, o_iast_e, o_icmp_e, o_if_e, o_ii_e, o_iinc_3, o_iinc_4, o_iinc_6, o_iload_2, o_iload_3, o_iload_4, o_iload_5, o_iload_6, o_iload_7, o_ist_3, o_ist_4, o_ist_5, o_ist_6, o_ist_7, o_putf_e, o_vret_e, tl_n, tl_s, true_and, xc1_i, xc1_r, xfit_a, xfit_i, xfit_l, xfit_o, xnlv_i, xnlv_n, xnlv_r, xwt_0, xwt_f, xwt_i, xwt_l, xwt_r, hA.cls, hA.g0, hA.g1, hA.g2, hA.g3, hA.g4, hA.g5, le_nI (a := a.2.2) (b := i) (by omega) (by omega), hA.l_qu, le_nI (a := 36) (b := i) (by omega) (by omega), hA.r_qu (c := i) (by omega)]
    refine ⟨fun z => ?_, fun z => ⟨fun z2 => by omega, fun _ => ?_⟩⟩
    · have e : spO x f t (k + 1) i a = a := by unfold spO; rw [if_neg (by omega)]
      rw [e] at kk
      exact kk go qu _ _ _ _ hR
    · have e : spO x f t (k + 1) i a = spO x f t k (i + 1) (spI x f t (a.2.1 i) a x.nd) := by
        show (if i < a.2.2 then _ else _) = _
        rw [if_pos (by omega)]
      rw [e] at kk
      have eq : ((s.wgo go).wqu qu).qu i = nI (a.2.1 i) := hR.2 i (by omega)
      have hci := ha.2.1 i (by omega)
      rw [eq]
      simp only [eX0_spread_0, eX0_spread_1, eX0_spread_4, eX0_spread_5, eX0_spread_6, eX0_spread_7, eX0_spread_8, eX0_spread_11, eX0_spread_12, eX0_spread_13, eX0_spread_16, eX0_spread_17, eX0_spread_18, eX0_spread_19, eX0_spread_20, eX0_spread_24, eX0_spread_25, eX0_spread_28, eX0_spread_30, eX0_spread_31, eX0_spread_34, eX0_spread_35, eX0_spread_38, eX0_spread_39, eX0_spread_42, eX0_spread_44, eX0_spread_45, eX0_spread_47, eX0_spread_48, eX0_spread_50, eX0_spread_52, eX0_spread_56, eX0_spread_58, eX0_spread_59, eX0_spread_62, eX0_spread_63, eX0_spread_66, eX0_spread_67, eX0_spread_70, eX0_spread_72, eX0_spread_73, eX0_spread_75, eX0_spread_77, eX0_spread_80, eX0_spread_81, eX0_spread_84, eX0_spread_86, eX0_spread_87, eX0_spread_90, eX0_spread_91, eX0_spread_92, eX0_spread_95, eX0_spread_96, eX0_spread_99, eX0_spread_100, eX0_spread_103, eX0_spread_105, eX0_spread_106, eX0_spread_107, eX0_spread_110, eX0_spread_111, eX0_spread_112, eX0_spread_115, eX0_spread_116, eX0_spread_119, eX0_spread_121, eX0_spread_122, eX0_spread_125, eX0_spread_126, eX0_spread_127, eX0_spread_130, eX0_spread_131, eX0_spread_133, eX0_spread_134, eX0_spread_137, eX0_spread_140, eX0_spread_143, eX0_spread_146, eX0_spread_150, eX0_spread_153, eX0_spread_154, eX0_spread_157, eX0_spread_158, eX0_spread_159, eX0_spread_160, eX0_spread_163, eX0_spread_164, eX0_spread_167, eX0_spread_168, eX0_spread_169, eX0_spread_170, eX0_spread_171, eX0_spread_174, eX0_spread_175, eX0_spread_176, eX0_spread_179, Nat.add_zero, Nat.reduceAdd, Nat.reduceLeDiff, Nat.zero_le, and_true, o_alen_e, o_aload_0r, o_aload_1r, o_callV_0, o_const_e, o_dup_e, o_getf_e, o_goto_e, o_iald_e, o_iald_f, o_iast_e, o_icmp_e, o_if_e, o_ii_e, o_iinc_3, o_iinc_4, o_iinc_6, o_iload_2, o_iload_3, o_iload_4, o_iload_5, o_iload_6, o_iload_7, o_ist_3, o_ist_4, o_ist_5, o_ist_6, o_ist_7, o_putf_e, o_vret_e, tl_n, tl_s, true_and, xc1_i, xc1_r, xfit_a, xfit_i, xfit_l, xfit_o, xnlv_i, xnlv_n, xnlv_r, xwt_0, xwt_f, xwt_i, xwt_l, xwt_r, n8, pk_mul, v5, v6]
      refine l_spI hg hl sep ok hk hf ht hst hci ha hG (i := i) (fun go' qu' w hR' => ?_) x.nd 0 (by omega) go qu _ hR
      simp only [eX0_spread_0, eX0_spread_1, eX0_spread_4, eX0_spread_5, eX0_spread_6, eX0_spread_7, eX0_spread_8, eX0_spread_11, eX0_spread_12, eX0_spread_13, eX0_spread_16, eX0_spread_17, eX0_spread_18, eX0_spread_19, eX0_spread_20, eX0_spread_24, eX0_spread_25, eX0_spread_28, eX0_spread_30, eX0_spread_31, eX0_spread_34, eX0_spread_35, eX0_spread_38, eX0_spread_39, eX0_spread_42, eX0_spread_44, eX0_spread_45, eX0_spread_47, eX0_spread_48, eX0_spread_50, eX0_spread_52, eX0_spread_56, eX0_spread_58, eX0_spread_59, eX0_spread_62, eX0_spread_63, eX0_spread_66, eX0_spread_67, eX0_spread_70, eX0_spread_72, eX0_spread_73, eX0_spread_75, eX0_spread_77, eX0_spread_80, eX0_spread_81, eX0_spread_84, eX0_spread_86, eX0_spread_87, eX0_spread_90, eX0_spread_91, eX0_spread_92, eX0_spread_95, eX0_spread_96, eX0_spread_99, eX0_spread_100, eX0_spread_103, eX0_spread_105, eX0_spread_106, eX0_spread_107, eX0_spread_110, eX0_spread_111, eX0_spread_112, eX0_spread_115, eX0_spread_116, eX0_spread_119, eX0_spread_121, eX0_spread_122, eX0_spread_125, eX0_spread_126, eX0_spread_127, eX0_spread_130, eX0_spread_131, eX0_spread_133, eX0_spread_134, eX0_spread_137, eX0_spread_140, eX0_spread_143, eX0_spread_146, eX0_spread_150, eX0_spread_153, eX0_spread_154, eX0_spread_157, eX0_spread_158, eX0_spread_159, eX0_spread_160, eX0_spread_163, eX0_spread_164, eX0_spread_167, eX0_spread_168, eX0_spread_169, eX0_spread_170, eX0_spread_171, eX0_spread_174, eX0_spread_175, eX0_spread_176, eX0_spread_179, Nat.add_zero, Nat.reduceAdd, Nat.reduceLeDiff, Nat.zero_le, and_true, o_alen_e, o_aload_0r, o_aload_1r, o_callV_0, o_const_e, o_dup_e, o_getf_e, o_goto_e, o_iald_e, o_iald_f, o_iast_e, o_icmp_e, o_if_e, o_ii_e, o_iinc_3, o_iinc_4, o_iinc_6, o_iload_2, o_iload_3, o_iload_4, o_iload_5, o_iload_6, o_iload_7, o_ist_3, o_ist_4, o_ist_5, o_ist_6, o_ist_7, o_putf_e, o_vret_e, tl_n, tl_s, true_and, xc1_i, xc1_r, xfit_a, xfit_i, xfit_l, xfit_o, xnlv_i, xnlv_n, xnlv_r, xwt_0, xwt_f, xwt_i, xwt_l, xwt_r, n1, nI_add]
      refine ih (i + 1) (by omega) _ (spI_ok ok ha _) (fun o j hj => ?_) kk go' qu' _ _ _ hR' trivial trivial
      rcases spI_G (x := x) (f := f) (t := t) (c := a.2.1 i) (i := o) (a := a) x.nd with e | e
      · rw [e] at hj; exact hG o j hj
      · rw [e] at hj; cases hj; exact Nat.le_refl t
/-- Grains.spread(lattice, f) -/
theorem c_spread (hg : GraAt AH g s) (hl : LatAt AH b x lk pr) (sep : b + 5 ≤ g ∨ g + 6 ≤ b) (ok : x.ok) (hk : LkOK x lk) {f t : Nat} (hf : f < x.n) (ht : t < 36) (hst : s.tt = nI t) {G : Nat → Option Nat} (hG0 : G f = none) (hG : ∀ o j, G o = some j → j < t) (hgo : ∀ i, i < 36 → s.go i = lkV (G i)) {Q : Option Value → xH → Prop} (k : ∀ go qu : Nat → Int32, (∀ i, i < 36 → go i = lkV ((spO x f t 36 0 (sp0 G f t)).1 i)) → Q none (graP AH g (((((s.wgo go).wqu qu).wls (upd s.ls t (nI f))).wsz (upd s.sz t (nI (spO x f t 36 0 (sp0 G f t)).2.2))).wtt (nI (t + 1))))) : XC MX0_spread [.ref g, .ref b, .int (nI f)] AH Q := by
  have hn := sLat.n36 ok
  have hg1 := hg.put (s.wqu (upd s.qu 0 (nI f)))
  refine XC.ofR (L := [some (.ref g), some (.ref b), some (.int (nI f)), none, none, none, none, none]) KX0_spread (by decide +kernel) (by first | decide | exact Nat.le_of_ble_eq_true rfl) rfl ?_
  simp only [eX0_spread_0, eX0_spread_1, eX0_spread_4, eX0_spread_5, eX0_spread_6, eX0_spread_7, eX0_spread_8, eX0_spread_11, eX0_spread_12, eX0_spread_13, eX0_spread_16, eX0_spread_17, eX0_spread_18, eX0_spread_19, eX0_spread_20, eX0_spread_24, eX0_spread_25, eX0_spread_28, eX0_spread_30, eX0_spread_31, eX0_spread_34, eX0_spread_35, eX0_spread_38, eX0_spread_39, eX0_spread_42, eX0_spread_44, eX0_spread_45, eX0_spread_47, eX0_spread_48, eX0_spread_50, eX0_spread_52, eX0_spread_54, eX0_spread_56, eX0_spread_58, eX0_spread_59, eX0_spread_62, eX0_spread_63, eX0_spread_66, eX0_spread_67, eX0_spread_70, eX0_spread_72, eX0_spread_73, eX0_spread_75, eX0_spread_77, eX0_spread_80, eX0_spread_81, eX0_spread_84, eX0_spread_86, eX0_spread_87, eX0_spread_90, eX0_spread_91, eX0_spread_92, eX0_spread_95, eX0_spread_96, eX0_spread_99, eX0_spread_100, eX0_spread_103, eX0_spread_105, eX0_spread_106, eX0_spread_107, eX0_spread_110, eX0_spread_111, eX0_spread_112, eX0_spread_115, eX0_spread_116, eX0_spread_119, eX0_spread_121, eX0_spread_122, eX0_spread_125, eX0_spread_126, eX0_spread_127, eX0_spread_130, eX0_spread_131, eX0_spread_133, eX0_spread_134, eX0_spread_137, eX0_spread_140, eX0_spread_143, eX0_spread_146, eX0_spread_149, eX0_spread_150, eX0_spread_153, eX0_spread_154, eX0_spread_157, eX0_spread_158, eX0_spread_159, eX0_spread_160, eX0_spread_163, eX0_spread_164, eX0_spread_167, eX0_spread_168, eX0_spread_169, eX0_spread_170, eX0_spread_171, eX0_spread_174, eX0_spread_175, eX0_spread_176, eX0_spread_179, Nat.add_zero, Nat.reduceAdd, Nat.reduceLeDiff, Nat.zero_le, and_true, o_alen_e, o_aload_0r, o_aload_1r, o_callV_0, o_const_e, o_dup_e, o_getf_e, o_goto_e, o_iald_e, o_iald_f, o_iast_e, o_icmp_e, o_if_e, o_ii_e, o_iinc_3, o_iinc_4, o_iinc_6, o_iload_2, o_iload_3, o_iload_4, o_iload_5, o_iload_6, o_iload_7, o_ist_3, o_ist_4, o_ist_5, o_ist_6, o_ist_7, o_putf_e, o_vret_e, tl_n, tl_s, true_and, xc1_i, xc1_r, xfit_a, xfit_i, xfit_l, xfit_o, xnlv_i, xnlv_n, xnlv_r, xwt_0, xwt_f, xwt_i, xwt_l, xwt_r, hg.cls, hg.g0, hg.g1, hg.g2, hg.g3, hg.g4, hg.g5, z_nI, hg.w_qu (c := 0) (by decide), hg1.cls, hg1.g0, hg1.g1, hg1.g2, hg1.g3, hg1.g4, hg1.g5, hg1.w_go (c := f) (by omega), graP_graP hg.lt]
  have e0 : (s.wqu (upd s.qu 0 (nI f))).tt = nI t := hst
  rw [e0, n1]
  have hR : spR lkV (sp0 G f t) (upd s.go f (nI t)) (upd s.qu 0 (nI f)) := by
    refine ⟨fun i hi => ?_, fun i hi => ?_⟩
    · show upd s.go f (nI t) i = lkV (va_up G f (some t) i)
      unfold upd va_up
      split
      · rfl
      · exact hgo i hi
    · have hi : i < 1 := hi
      show upd s.qu 0 (nI f) i = nI f
      unfold upd
      rw [if_pos (by omega)]
  refine l_spO hg hl sep ok hk hf ht hst 36 0 (by omega) (sp0 G f t) (sp0_ok ok hf hG0) (fun o j hj => ?_) (fun go qu w4 w5 w6 w7 hR2 => ?_) (upd s.go f (nI t)) (upd s.qu 0 (nI f)) none none none hR trivial trivial
  · have hj : va_up G f (some t) o = some j := hj
    unfold va_up at hj
    split at hj
    · cases hj; exact Nat.le_refl t
    · exact Nat.le_of_lt (hG o j hj)
  · have hA := hg.put ((s.wgo go).wqu qu)
    have e1 : ((s.wgo go).wqu qu).tt = nI t := hst
    have hB := hg.put (((s.wgo go).wqu qu).wls (upd s.ls t (nI f)))
    have e2 : (((s.wgo go).wqu qu).wls (upd s.ls t (nI f))).tt = nI t := hst
    have hC := hg.put ((((s.wgo go).wqu qu).wls (upd s.ls t (nI f))).wsz (upd s.sz t (nI (spO x f t 36 0 (sp0 G f t)).2.2)))
    have e3 : ((((s.wgo go).wqu qu).wls (upd s.ls t (nI f))).wsz (upd s.sz t (nI (spO x f t 36 0 (sp0 G f t)).2.2))).tt = nI t := hst
    simp only [eX0_spread_0, eX0_spread_1, eX0_spread_4, eX0_spread_5, eX0_spread_6, eX0_spread_7, eX0_spread_8, eX0_spread_11, eX0_spread_12, eX0_spread_13, eX0_spread_16, eX0_spread_17, eX0_spread_18, eX0_spread_19, eX0_spread_20, eX0_spread_24, eX0_spread_25, eX0_spread_28, eX0_spread_30, eX0_spread_31, eX0_spread_34, eX0_spread_35, eX0_spread_38, eX0_spread_39, eX0_spread_42, eX0_spread_44, eX0_spread_45, eX0_spread_47, eX0_spread_48, eX0_spread_50, eX0_spread_52, eX0_spread_54, eX0_spread_56, eX0_spread_58, eX0_spread_59, eX0_spread_62, eX0_spread_63, eX0_spread_66, eX0_spread_67, eX0_spread_70, eX0_spread_72, eX0_spread_73, eX0_spread_75, eX0_spread_77, eX0_spread_80, eX0_spread_81, eX0_spread_84, eX0_spread_86, eX0_spread_87, eX0_spread_90, eX0_spread_91, eX0_spread_92, eX0_spread_95, eX0_spread_96, eX0_spread_99, eX0_spread_100, eX0_spread_103, eX0_spread_105, eX0_spread_106, eX0_spread_107, eX0_spread_110, eX0_spread_111, eX0_spread_112, eX0_spread_115, eX0_spread_116, eX0_spread_119, eX0_spread_121, eX0_spread_122, eX0_spread_125, eX0_spread_126, eX0_spread_127, eX0_spread_130, eX0_spread_131, eX0_spread_133, eX0_spread_134, eX0_spread_137, eX0_spread_140, eX0_spread_143, eX0_spread_146, eX0_spread_149, eX0_spread_150, eX0_spread_153, eX0_spread_154, eX0_spread_157, eX0_spread_158, eX0_spread_159, eX0_spread_160, eX0_spread_163, eX0_spread_164, eX0_spread_167, eX0_spread_168, eX0_spread_169, eX0_spread_170, eX0_spread_171, eX0_spread_174, eX0_spread_175, eX0_spread_176, eX0_spread_179, Nat.add_zero, Nat.reduceAdd, Nat.reduceLeDiff, Nat.zero_le, and_true, o_alen_e, o_aload_0r, o_aload_1r, o_callV_0, o_const_e, o_dup_e, o_getf_e, o_goto_e, o_iald_e, o_iald_f, o_iast_e, o_icmp_e, o_if_e, o_ii_e, o_iinc_3, o_iinc_4, o_iinc_6, o_iload_2, o_iload_3, o_iload_4, o_iload_5, o_iload_6, o_iload_7, o_ist_3, o_ist_4, o_ist_5, o_ist_6, o_ist_7, o_putf_e, o_vret_e, tl_n, tl_s, true_and, xc1_i, xc1_r, xfit_a, xfit_i, xfit_l, xfit_o, xnlv_i, xnlv_n, xnlv_r, xwt_0, xwt_f, xwt_i, xwt_l, xwt_r, hA.cls, hA.g0, hA.g1, hA.g2, hA.g3, hA.g4, hA.g5, e1, hA.w_ls ht, graP_graP hg.lt]
    rw [show ((s.wgo go).wqu qu).ls = s.ls from rfl]
    simp only [eX0_spread_0, eX0_spread_1, eX0_spread_4, eX0_spread_5, eX0_spread_6, eX0_spread_7, eX0_spread_8, eX0_spread_11, eX0_spread_12, eX0_spread_13, eX0_spread_16, eX0_spread_17, eX0_spread_18, eX0_spread_19, eX0_spread_20, eX0_spread_24, eX0_spread_25, eX0_spread_28, eX0_spread_30, eX0_spread_31, eX0_spread_34, eX0_spread_35, eX0_spread_38, eX0_spread_39, eX0_spread_42, eX0_spread_44, eX0_spread_45, eX0_spread_47, eX0_spread_48, eX0_spread_50, eX0_spread_52, eX0_spread_54, eX0_spread_56, eX0_spread_58, eX0_spread_59, eX0_spread_62, eX0_spread_63, eX0_spread_66, eX0_spread_67, eX0_spread_70, eX0_spread_72, eX0_spread_73, eX0_spread_75, eX0_spread_77, eX0_spread_80, eX0_spread_81, eX0_spread_84, eX0_spread_86, eX0_spread_87, eX0_spread_90, eX0_spread_91, eX0_spread_92, eX0_spread_95, eX0_spread_96, eX0_spread_99, eX0_spread_100, eX0_spread_103, eX0_spread_105, eX0_spread_106, eX0_spread_107, eX0_spread_110, eX0_spread_111, eX0_spread_112, eX0_spread_115, eX0_spread_116, eX0_spread_119, eX0_spread_121, eX0_spread_122, eX0_spread_125, eX0_spread_126, eX0_spread_127, eX0_spread_130, eX0_spread_131, eX0_spread_133, eX0_spread_134, eX0_spread_137, eX0_spread_140, eX0_spread_143, eX0_spread_146, eX0_spread_149, eX0_spread_150, eX0_spread_153, eX0_spread_154, eX0_spread_157, eX0_spread_158, eX0_spread_159, eX0_spread_160, eX0_spread_163, eX0_spread_164, eX0_spread_167, eX0_spread_168, eX0_spread_169, eX0_spread_170, eX0_spread_171, eX0_spread_174, eX0_spread_175, eX0_spread_176, eX0_spread_179, Nat.add_zero, Nat.reduceAdd, Nat.reduceLeDiff, Nat.zero_le, and_true, o_alen_e, o_aload_0r, o_aload_1r, o_callV_0, o_const_e, o_dup_e, o_getf_e, o_goto_e, o_iald_e, o_iald_f, o_iast_e, o_icmp_e, o_if_e, o_ii_e, o_iinc_3, o_iinc_4, o_iinc_6, o_iload_2, o_iload_3, o_iload_4, o_iload_5, o_iload_6, o_iload_7, o_ist_3, o_ist_4, o_ist_5, o_ist_6, o_ist_7, o_putf_e, o_vret_e, tl_n, tl_s, true_and, xc1_i, xc1_r, xfit_a, xfit_i, xfit_l, xfit_o, xnlv_i, xnlv_n, xnlv_r, xwt_0, xwt_f, xwt_i, xwt_l, xwt_r, hB.cls, hB.g0, hB.g1, hB.g2, hB.g3, hB.g4, hB.g5, e2, hB.w_sz ht, graP_graP hg.lt]
    rw [show (((s.wgo go).wqu qu).wls (upd s.ls t (nI f))).sz = s.sz from rfl]
    simp only [eX0_spread_0, eX0_spread_1, eX0_spread_4, eX0_spread_5, eX0_spread_6, eX0_spread_7, eX0_spread_8, eX0_spread_11, eX0_spread_12, eX0_spread_13, eX0_spread_16, eX0_spread_17, eX0_spread_18, eX0_spread_19, eX0_spread_20, eX0_spread_24, eX0_spread_25, eX0_spread_28, eX0_spread_30, eX0_spread_31, eX0_spread_34, eX0_spread_35, eX0_spread_38, eX0_spread_39, eX0_spread_42, eX0_spread_44, eX0_spread_45, eX0_spread_47, eX0_spread_48, eX0_spread_50, eX0_spread_52, eX0_spread_54, eX0_spread_56, eX0_spread_58, eX0_spread_59, eX0_spread_62, eX0_spread_63, eX0_spread_66, eX0_spread_67, eX0_spread_70, eX0_spread_72, eX0_spread_73, eX0_spread_75, eX0_spread_77, eX0_spread_80, eX0_spread_81, eX0_spread_84, eX0_spread_86, eX0_spread_87, eX0_spread_90, eX0_spread_91, eX0_spread_92, eX0_spread_95, eX0_spread_96, eX0_spread_99, eX0_spread_100, eX0_spread_103, eX0_spread_105, eX0_spread_106, eX0_spread_107, eX0_spread_110, eX0_spread_111, eX0_spread_112, eX0_spread_115, eX0_spread_116, eX0_spread_119, eX0_spread_121, eX0_spread_122, eX0_spread_125, eX0_spread_126, eX0_spread_127, eX0_spread_130, eX0_spread_131, eX0_spread_133, eX0_spread_134, eX0_spread_137, eX0_spread_140, eX0_spread_143, eX0_spread_146, eX0_spread_149, eX0_spread_150, eX0_spread_153, eX0_spread_154, eX0_spread_157, eX0_spread_158, eX0_spread_159, eX0_spread_160, eX0_spread_163, eX0_spread_164, eX0_spread_167, eX0_spread_168, eX0_spread_169, eX0_spread_170, eX0_spread_171, eX0_spread_174, eX0_spread_175, eX0_spread_176, eX0_spread_179, Nat.add_zero, Nat.reduceAdd, Nat.reduceLeDiff, Nat.zero_le, and_true, o_alen_e, o_aload_0r, o_aload_1r, o_callV_0, o_const_e, o_dup_e, o_getf_e, o_goto_e, o_iald_e, o_iald_f, o_iast_e, o_icmp_e, o_if_e, o_ii_e, o_iinc_3, o_iinc_4, o_iinc_6, o_iload_2, o_iload_3, o_iload_4, o_iload_5, o_iload_6, o_iload_7, o_ist_3, o_ist_4, o_ist_5, o_ist_6, o_ist_7, o_putf_e, o_vret_e, tl_n, tl_s, true_and, xc1_i, xc1_r, xfit_a, xfit_i, xfit_l, xfit_o, xnlv_i, xnlv_n, xnlv_r, xwt_0, xwt_f, xwt_i, xwt_l, xwt_r, hC.cls, hC.g0, hC.g1, hC.g2, hC.g3, hC.g4, hC.g5, e3, hC.p_tt, graP_graP hg.lt, n1, nI_add]
    exact k go qu hR2.1
end SPO
section FILLL
/-- Arrays.fill(long[], long) -/
theorem l_fillL {a n : Nat} {v : Int64} (hn : n < 2 ^ 31) {Q : xQ} : ∀ (m j : Nat), j + m = n → ∀ {AH : xH} {f g : Nat → Int64}, AH[a]? = some (cL n g) → (∀ i, g i = if i < j then v else f i) → (∀ g' : Nat → Int64, (∀ i, g' i = if i < n then v else f i) → Q none (AH.set a (cL n g')) (0, 0)) →
    XR TJ7_fill_d0a16 6 [some (.ref a), some (.long v), none, some (.int (nI j)), some (.int (nI n))] [] AH (0, 0) Q := by
  intro m
  induction m with
  | zero =>
    intro j hj AH f g ha hg k
    rw [eJ7_fill_d0a16_6]
    simp only [eJ7_fill_d0a16_0, eJ7_fill_d0a16_1, eJ7_fill_d0a16_2, eJ7_fill_d0a16_3, eJ7_fill_d0a16_4, eJ7_fill_d0a16_7, eJ7_fill_d0a16_9, eJ7_fill_d0a16_12, eJ7_fill_d0a16_13, eJ7_fill_d0a16_14, eJ7_fill_d0a16_15, eJ7_fill_d0a16_16, eJ7_fill_d0a16_19, eJ7_fill_d0a16_22, o_alen_e, o_aload_0r, o_const_e, o_goto_e, o_icmp_e, o_iinc_3, o_iload_3, o_iload_4, o_ist_3, o_ist_4, o_last_e, o_lload_1, o_vret_e, true_and, xnlv_i, xnlv_n, xnlv_r, le_nI (a := n) (b := j) (by omega) (by omega)]
    refine ⟨fun _ => ?_, fun g => by omega⟩
    have := k g (fun i => by rw [hg i, show j = n by omega])
    rw [show AH.set a (cL n g) = AH from List.ext_getElem? (fun i => by
      rw [List.getElem?_set]
      split
      · rename_i e; subst e; rw [if_pos (List.getElem?_eq_some_iff.mp ha).1]; exact ha.symm
      · rfl)] at this
    exact this
  | succ m ih =>
    intro j hj AH f g ha hg k
    rw [eJ7_fill_d0a16_6]
    simp only [eJ7_fill_d0a16_0, eJ7_fill_d0a16_1, eJ7_fill_d0a16_2, eJ7_fill_d0a16_3, eJ7_fill_d0a16_4, eJ7_fill_d0a16_7, eJ7_fill_d0a16_9, eJ7_fill_d0a16_12, eJ7_fill_d0a16_13, eJ7_fill_d0a16_14, eJ7_fill_d0a16_15, eJ7_fill_d0a16_16, eJ7_fill_d0a16_19, eJ7_fill_d0a16_22, o_alen_e, o_aload_0r, o_const_e, o_goto_e, o_icmp_e, o_iinc_3, o_iload_3, o_iload_4, o_ist_3, o_ist_4, o_last_e, o_lload_1, o_vret_e, true_and, xnlv_i, xnlv_n, xnlv_r, le_nI (a := n) (b := j) (by omega) (by omega), xlast_of ha (show j < n by omega) hn, n1, nI_add]
    refine ⟨fun g => by omega, fun _ => ?_⟩
    have hl := (List.getElem?_eq_some_iff.mp ha).1
    refine ih (j + 1) (by omega) (f := f) (g := vp_updL g j v) (by rw [List.getElem?_set, if_pos rfl, if_pos hl]) (fun i => ?_) (fun g' hg' => ?_)
    · unfold vp_updL
      split
      · rename_i e; subst e; rw [if_pos (by omega)]
      · rename_i e; rw [hg i]; by_cases e2 : i < j
        · rw [if_pos e2, if_pos (by omega)]
        · rw [if_neg e2, if_neg (by omega)]
    · rw [List.set_set]
      exact k g' hg'
theorem c_fillL {AH : xH} {a n : Nat} {v : Int64} {f : Nat → Int64} (hn : n < 2 ^ 31) (ha : AH[a]? = some (cL n f)) {Q : Option Value → xH → Prop} (k : Q none (AH.set a (cL n (fun i => if i < n then v else f i)))) : XC MJ7_fill_d0a16 [.ref a, .long v] AH Q := by
  refine XC.ofR (L := [some (.ref a), some (.long v), none, none, none]) KJ7_fill_d0a16 (by decide +kernel) (by first | decide | exact Nat.le_of_ble_eq_true rfl) rfl ?_
  simp only [eJ7_fill_d0a16_0, eJ7_fill_d0a16_1, eJ7_fill_d0a16_2, eJ7_fill_d0a16_3, eJ7_fill_d0a16_4, eJ7_fill_d0a16_7, eJ7_fill_d0a16_9, eJ7_fill_d0a16_12, eJ7_fill_d0a16_13, eJ7_fill_d0a16_14, eJ7_fill_d0a16_15, eJ7_fill_d0a16_16, eJ7_fill_d0a16_19, eJ7_fill_d0a16_22, o_alen_e, o_aload_0r, o_const_e, o_goto_e, o_icmp_e, o_iinc_3, o_iload_3, o_iload_4, o_ist_3, o_ist_4, o_last_e, o_lload_1, o_vret_e, true_and, xnlv_i, xnlv_n, xnlv_r, xalen_of ha]
  refine l_fillL hn n 0 (by omega) ha (f := f) (fun i => by rw [if_neg (by omega)]) (fun g' hg' => ?_)
  rw [show g' = fun i => if i < n then v else f i from funext hg']
  exact k
end FILLL
/-! who touches whom: masks -/
def sLat.gn (x : sLat) (c : Nat) : Nat := (x.G c).getD 0
def tI (x : sLat) (c : Nat) (m : Nat → Nat) : Nat → (Nat → Nat)
  | 0 => m
  | d + 1 => match x.nb c d with
    | none => tI x c m d
    | some o => if x.G o = x.G c then tI x c m d else va_up (tI x c m d) (x.gn c) (tI x c m d (x.gn c) ||| 2 ^ x.gn o)
def tM (x : sLat) : Nat → (Nat → Nat)
  | 0 => fun _ => 0
  | c + 1 => tI x c (tM x c) x.nd
theorem gn_G {x : sLat} {c : Nat} (h : c < x.n) : x.G c = some (x.gn c) := by
  obtain ⟨g, hg⟩ := sLat.G_some h
  unfold sLat.gn
  rw [hg]
  rfl
theorem gn_lt {x : sLat} {c : Nat} (h : c < x.n) : x.gn c < x.gT := sLat.G_lt (gn_G h)
theorem lN_or (a b : Nat) : lN a ||| lN b = lN (a ||| b) := by
  apply Int64.toBitVec_inj.mp
  simp only [lN, Int64.toBitVec_or]
  show BitVec.ofNat 64 a ||| BitVec.ofNat 64 b = BitVec.ofNat 64 (a ||| b)
  rw [BitVec.ofNat_or]
theorem shlL_t : ∀ h, h < 36 → (1 : Int64) <<< ((nI h).toInt64 &&& 63) = lN (2 ^ h) := by decide +kernel
def TcOK (m : Nat → Nat) (to : Nat → Int64) : Prop := ∀ i, i < 36 → to i = lN (m i)
theorem TcOK.up {m : Nat → Nat} {to : Nat → Int64} (h : TcOK m to) {i v : Nat} : TcOK (va_up m i v) (vp_updL to i (lN v)) := fun j hj => by
  unfold va_up vp_updL
  split
  · rfl
  · exact h j hj
section TCH
variable {AH : xH} {g b : Nat} {s : sGra} {x : sLat} {lk pr : Nat → Int32}
theorem l_tI (hg : GraAt AH g s) (hl : LatAt AH b x lk pr) (sep : b + 5 ≤ g ∨ g + 6 ≤ b) (ok : x.ok) (hk : LkOK x lk) (hgo : ∀ i, i < 36 → s.go i = lkV (x.G i)) {c : Nat} (hc : c < x.n) {m : Nat → Nat} {Q : xQ} (k : ∀ (to : Nat → Int64) (w : Option Value), TcOK (tI x c m x.nd) to → XR TX0_touch 96 [some (.ref g), some (.ref b), some (.int (nI c)), some (.int (nI (c * 8))), some (.int (nI (c * 8 + x.nd))), w] [] (graP AH g (s.wto to)) (0, 0) Q) : ∀ (n d : Nat), d + n = x.nd → ∀ (to : Nat → Int64) (w : Option Value), TcOK (tI x c m d) to →
    XR TX0_touch 26 [some (.ref g), some (.ref b), some (.int (nI c)), some (.int (nI (c * 8))), some (.int (nI (c * 8 + d))), w] [] (graP AH g (s.wto to)) (0, 0) Q := by
  have hn := sLat.n36 ok
  have hnd := sLat.nd8 (x := x)
  have hgt := sLat.gT_le (x := x)
  intro n
  induction n with
  | zero =>
    intro d hd to w hR
    have hL := hg.lat hl sep (s.wto to)
    rw [eX0_touch_26]
    simp only [eX0_touch_0, eX0_touch_1, eX0_touch_4, eX0_touch_5, eX0_touch_8, eX0_touch_9, eX0_touch_10, eX0_touch_11, eX0_touch_12, eX0_touch_15, eX0_touch_18, eX0_touch_19, eX0_touch_21, eX0_touch_22, eX0_touch_23, eX0_touch_24, eX0_touch_28, eX0_touch_29, eX0_touch_30, eX0_touch_33, eX0_touch_34, eX0_touch_37, eX0_touch_38, eX0_touch_41, eX0_touch_43, eX0_touch_44, eX0_touch_46, eX0_touch_48, eX0_touch_51, eX0_touch_52, eX0_touch_55, eX0_touch_57, eX0_touch_58, eX0_touch_59, eX0_touch_62, eX0_touch_63, eX0_touch_64, eX0_touch_67, eX0_touch_68, eX0_touch_71, eX0_touch_72, eX0_touch_75, eX0_touch_76, eX0_touch_77, eX0_touch_78, eX0_touch_79, eX0_touch_80, eX0_touch_81, eX0_touch_84, eX0_touch_86, eX0_touch_87, eX0_touch_88, eX0_touch_89, eX0_touch_90, eX0_touch_93, eX0_touch_99, eX0_touch_102, Nat.add_zero, Nat.reduceAdd, Nat.reduceLeDiff, Nat.zero_le, and_true, o_aload_0r, o_aload_1r, o_callS_2, o_callV_0, o_const_e, o_dup2_e, o_getf_e, o_goto_e, o_iald_e, o_iald_f, o_icmp_e, o_if_e, o_ii_e, o_iinc_2, o_iinc_4, o_iload_2, o_iload_3, o_iload_4, o_iload_5, o_ist_2, o_ist_3, o_ist_4, o_ist_5, o_lald_e, o_last_e, o_lil_e, o_ll_e, o_vret_e, tl_n, tl_s, true_and, xc1_i, xc1_r, xnlv_i, xnlv_n, xnlv_r, xwt_0, xwt_f, xwt_i, xwt_l, xwt_r, hL.cls, hL.g0, hL.g1, hL.g2, hL.g3, hL.g4, hL.g5, hL.g6, hL.g7, hL.g8, hL.g9, hL.g10, hL.g11]
    refine c_directions hL ok ?_
    simp only [eX0_touch_0, eX0_touch_1, eX0_touch_4, eX0_touch_5, eX0_touch_8, eX0_touch_9, eX0_touch_10, eX0_touch_11, eX0_touch_12, eX0_touch_15, eX0_touch_18, eX0_touch_19, eX0_touch_21, eX0_touch_22, eX0_touch_23, eX0_touch_24, eX0_touch_28, eX0_touch_29, eX0_touch_30, eX0_touch_33, eX0_touch_34, eX0_touch_37, eX0_touch_38, eX0_touch_41, eX0_touch_43, eX0_touch_44, eX0_touch_46, eX0_touch_48, eX0_touch_51, eX0_touch_52, eX0_touch_55, eX0_touch_57, eX0_touch_58, eX0_touch_59, eX0_touch_62, eX0_touch_63, eX0_touch_64, eX0_touch_67, eX0_touch_68, eX0_touch_71, eX0_touch_72, eX0_touch_75, eX0_touch_76, eX0_touch_77, eX0_touch_78, eX0_touch_79, eX0_touch_80, eX0_touch_81, eX0_touch_84, eX0_touch_86, eX0_touch_87, eX0_touch_88, eX0_touch_89, eX0_touch_90, eX0_touch_93, eX0_touch_99, eX0_touch_102, Nat.add_zero, Nat.reduceAdd, Nat.reduceLeDiff, Nat.zero_le, and_true, o_aload_0r, o_aload_1r, o_callS_2, o_callV_0, o_const_e, o_dup2_e, o_getf_e, o_goto_e, o_iald_e, o_iald_f, o_icmp_e, o_if_e, o_ii_e, o_iinc_2, o_iinc_4, o_iload_2, o_iload_3, o_iload_4, o_iload_5, o_ist_2, o_ist_3, o_ist_4, o_ist_5, o_lald_e, o_last_e, o_lil_e, o_ll_e, o_vret_e, tl_n, tl_s, true_and, xc1_i, xc1_r, xnlv_i, xnlv_n, xnlv_r, xwt_0, xwt_f, xwt_i, xwt_l, xwt_r, nI_add, le_nI (a := c*8+x.nd) (b := c*8+d) (by omega) (by omega)]
    refine ⟨fun _ => ?_, fun g => by omega⟩
    have e : d = x.nd := by omega
    subst e
    exact k to w hR
  | succ n ih =>
    intro d hd to w hR
    have hL := hg.lat hl sep (s.wto to)
    have hA := hg.put (s.wto to)
    rw [eX0_touch_26]
    simp only [eX0_touch_0, eX0_touch_1, eX0_touch_4, eX0_touch_5, eX0_touch_8, eX0_touch_9, eX0_touch_10, eX0_touch_11, eX0_touch_12, eX0_touch_15, eX0_touch_18, eX0_touch_19, eX0_touch_21, eX0_touch_22, eX0_touch_23, eX0_touch_24, eX0_touch_28, eX0_touch_29, eX0_touch_30, eX0_touch_33, eX0_touch_34, eX0_touch_37, eX0_touch_38, eX0_touch_41, eX0_touch_43, eX0_touch_44, eX0_touch_46, eX0_touch_48, eX0_touch_51, eX0_touch_52, eX0_touch_55, eX0_touch_57, eX0_touch_58, eX0_touch_59, eX0_touch_62, eX0_touch_63, eX0_touch_64, eX0_touch_67, eX0_touch_68, eX0_touch_71, eX0_touch_72, eX0_touch_75, eX0_touch_76, eX0_touch_77, eX0_touch_78, eX0_touch_79, eX0_touch_80, eX0_touch_81, eX0_touch_84, eX0_touch_86, eX0_touch_87, eX0_touch_88, eX0_touch_89, eX0_touch_90, eX0_touch_93, eX0_touch_99, eX0_touch_102, Nat.add_zero, Nat.reduceAdd, Nat.reduceLeDiff, Nat.zero_le, and_true, o_aload_0r, o_aload_1r, o_callS_2, o_callV_0, o_const_e, o_dup2_e, o_getf_e, o_goto_e, o_iald_e, o_iald_f, o_icmp_e, o_if_e, o_ii_e, o_iinc_2, o_iinc_4, o_iload_2, o_iload_3, o_iload_4, o_iload_5, o_ist_2, o_ist_3, o_ist_4, o_ist_5, o_lald_e, o_last_e, o_lil_e, o_ll_e, o_vret_e, tl_n, tl_s, true_and, xc1_i, xc1_r, xnlv_i, xnlv_n, xnlv_r, xwt_0, xwt_f, xwt_i, xwt_l, xwt_r, hL.cls, hL.g0, hL.g1, hL.g2, hL.g3, hL.g4, hL.g5, hL.g6, hL.g7, hL.g8, hL.g9, hL.g10, hL.g11]
    refine c_directions hL ok ?_
    simp only [eX0_touch_0, eX0_touch_1, eX0_touch_4, eX0_touch_5, eX0_touch_8, eX0_touch_9, eX0_touch_10, eX0_touch_11, eX0_touch_12, eX0_touch_15, eX0_touch_18, eX0_touch_19, eX0_touch_21, eX0_touch_22, eX0_touch_23, eX0_touch_24, eX0_touch_28, eX0_touch_29, eX0_touch_30, eX0_touch_33, eX0_touch_34, eX0_touch_37, eX0_touch_38, eX0_touch_41, eX0_touch_43, eX0_touch_44, eX0_touch_46, eX0_touch_48, eX0_touch_51, eX0_touch_52, eX0_touch_55, eX0_touch_57, eX0_touch_58, eX0_touch_59, eX0_touch_62, eX0_touch_63, eX0_touch_64, eX0_touch_67, eX0_touch_68, eX0_touch_71, eX0_touch_72, eX0_touch_75, eX0_touch_76, eX0_touch_77, eX0_touch_78, eX0_touch_79, eX0_touch_80, eX0_touch_81, eX0_touch_84, eX0_touch_86, eX0_touch_87, eX0_touch_88, eX0_touch_89, eX0_touch_90, eX0_touch_93, eX0_touch_99, eX0_touch_102, Nat.add_zero, Nat.reduceAdd, Nat.reduceLeDiff, Nat.zero_le, and_true, o_aload_0r, o_aload_1r, o_callS_2, o_callV_0, o_const_e, o_dup2_e, o_getf_e, o_goto_e, o_iald_e, o_iald_f, o_icmp_e, o_if_e, o_ii_e, o_iinc_2, o_iinc_4, o_iload_2, o_iload_3, o_iload_4, o_iload_5, o_ist_2, o_ist_3, o_ist_4, o_ist_5, o_lald_e, o_last_e, o_lil_e, o_ll_e, o_vret_e, tl_n, tl_s, true_and, xc1_i, xc1_r, xnlv_i, xnlv_n, xnlv_r, xwt_0, xwt_f, xwt_i, xwt_l, xwt_r, hL.cls, hL.g0, hL.g1, hL.g2, hL.g3, hL.g4, hL.g5, hL.g6, hL.g7, hL.g8, hL.g9, hL.g10, hL.g11, nI_add, le_nI (a := c*8+x.nd) (b := c*8+d) (by omega) (by omega), hL.rl (c := c*8+d) (by omega)]
    refine ⟨fun g => by omega, fun _ => ?_⟩
    rw [hk c d hc (by omega)]
    have ih := ih (d + 1) (by omega)
    unfold tI at ih
    cases hb : x.nb c d with
    | none =>
      simp only [hb] at ih
      refine ⟨fun _ => ?_, fun g => absurd (by decide) g⟩
      rw [n1, nI_add]
      exact ih to _ hR
    | some o =>
      have ho := sLat.nb_36 ok hb
      have hon := sLat.nb_lt ok hb
      simp only [hb] at ih
      have eo := gn_G hon
      have ec := gn_G hc
      have lo := gn_lt hon
      have lc := gn_lt hc
      have e1 : (s.wto to).go o = nI (x.gn o) := by rw [show (s.wto to).go = s.go from rfl, hgo o ho, eo]; rfl
      have e2 : (s.wto to).go c = nI (x.gn c) := by rw [show (s.wto to).go = s.go from rfl, hgo c (by omega), ec]; rfl
      have e3 : (s.wto to).to (x.gn c) = lN (tI x c m d (x.gn c)) := hR (x.gn c) (by omega)
      simp only [eX0_touch_0, eX0_touch_1, eX0_touch_4, eX0_touch_5, eX0_touch_8, eX0_touch_9, eX0_touch_10, eX0_touch_11, eX0_touch_12, eX0_touch_15, eX0_touch_18, eX0_touch_19, eX0_touch_21, eX0_touch_22, eX0_touch_23, eX0_touch_24, eX0_touch_28, eX0_touch_29, eX0_touch_30, eX0_touch_33, eX0_touch_34, eX0_touch_37, eX0_touch_38, eX0_touch_41, eX0_touch_43, eX0_touch_44, eX0_touch_46, eX0_touch_48, eX0_touch_51, eX0_touch_52, eX0_touch_55, eX0_touch_57, eX0_touch_58, eX0_touch_59, eX0_touch_62, eX0_touch_63, eX0_touch_64, eX0_touch_67, eX0_touch_68, eX0_touch_71, eX0_touch_72, eX0_touch_75, eX0_touch_76, eX0_touch_77, eX0_touch_78, eX0_touch_79, eX0_touch_80, eX0_touch_81, eX0_touch_84, eX0_touch_86, eX0_touch_87, eX0_touch_88, eX0_touch_89, eX0_touch_90, eX0_touch_93, eX0_touch_99, eX0_touch_102, Nat.add_zero, Nat.reduceAdd, Nat.reduceLeDiff, Nat.zero_le, and_true, o_aload_0r, o_aload_1r, o_callS_2, o_callV_0, o_const_e, o_dup2_e, o_getf_e, o_goto_e, o_iald_e, o_iald_f, o_icmp_e, o_if_e, o_ii_e, o_iinc_2, o_iinc_4, o_iload_2, o_iload_3, o_iload_4, o_iload_5, o_ist_2, o_ist_3, o_ist_4, o_ist_5, o_lald_e, o_last_e, o_lil_e, o_ll_e, o_vret_e, tl_n, tl_s, true_and, xc1_i, xc1_r, xnlv_i, xnlv_n, xnlv_r, xwt_0, xwt_f, xwt_i, xwt_l, xwt_r, lkV, lt0_nI (a := o) (by omega), not_true_eq_false, not_false_eq_true, true_implies, false_implies, and_true, true_and, implies_true, forall_const, ↓reduceIte, Bool.false_eq_true, i10, i10n, hA.cls, hA.g0, hA.g1, hA.g2, hA.g3, hA.g4, hA.g5, hA.r_go ho, hA.r_go (c := c) (by omega), e1, e2, eq_nI (a := x.gn o) (b := x.gn c) (by omega) (by omega), hA.r_to (c := x.gn c) (by omega), e3, shlL_t (x.gn o) (by omega), lN_or, hA.w_to (c := x.gn c) (by omega), graP_graP hg.lt]
      refine ⟨fun g1 => ?_, fun g1 => ?_⟩
      · rw [if_pos (by rw [eo, ec, g1])] at ih
        rw [n1, nI_add]
        exact ih to _ hR
      · rw [if_neg (by rw [eo, ec]; intro z; exact g1 (Option.some.inj z))] at ih
        rw [n1, nI_add]
        exact ih _ _ hR.up
theorem l_tM (hg : GraAt AH g s) (hl : LatAt AH b x lk pr) (sep : b + 5 ≤ g ∨ g + 6 ≤ b) (ok : x.ok) (hk : LkOK x lk) (hgo : ∀ i, i < 36 → s.go i = lkV (x.G i)) {Q : xQ} (k : ∀ to : Nat → Int64, TcOK (tM x x.n) to → Q none (graP AH g (s.wto to)) (0, 0)) : ∀ (n c : Nat), c + n = x.n → ∀ (to : Nat → Int64) (w3 w4 w5 : Option Value), xnlv w3 → xnlv w4 → TcOK (tM x c) to →
    XR TX0_touch 10 [some (.ref g), some (.ref b), some (.int (nI c)), w3, w4, w5] [] (graP AH g (s.wto to)) (0, 0) Q := by
  have hn := sLat.n36 ok
  intro n
  induction n with
  | zero =>
    intro c hc to w3 w4 w5 v3 v4 hR
    have hL := hg.lat hl sep (s.wto to)
    rw [eX0_touch_10]
    simp only [eX0_touch_0, eX0_touch_1, eX0_touch_4, eX0_touch_5, eX0_touch_8, eX0_touch_9, eX0_touch_11, eX0_touch_12, eX0_touch_15, eX0_touch_18, eX0_touch_19, eX0_touch_21, eX0_touch_22, eX0_touch_23, eX0_touch_24, eX0_touch_28, eX0_touch_29, eX0_touch_30, eX0_touch_33, eX0_touch_34, eX0_touch_37, eX0_touch_38, eX0_touch_41, eX0_touch_43, eX0_touch_44, eX0_touch_46, eX0_touch_48, eX0_touch_51, eX0_touch_52, eX0_touch_55, eX0_touch_57, eX0_touch_58, eX0_touch_59, eX0_touch_62, eX0_touch_63, eX0_touch_64, eX0_touch_67, eX0_touch_68, eX0_touch_71, eX0_touch_72, eX0_touch_75, eX0_touch_76, eX0_touch_77, eX0_touch_78, eX0_touch_79, eX0_touch_80, eX0_touch_81, eX0_touch_84, eX0_touch_86, eX0_touch_87, eX0_touch_88, eX0_touch_89, eX0_touch_90, eX0_touch_93, eX0_touch_96, eX0_touch_99, eX0_touch_102, Nat.add_zero, Nat.reduceAdd, Nat.reduceLeDiff, Nat.zero_le, and_true, o_aload_0r, o_aload_1r, o_callS_2, o_callV_0, o_const_e, o_dup2_e, o_getf_e, o_goto_e, o_iald_e, o_iald_f, o_icmp_e, o_if_e, o_ii_e, o_iinc_2, o_iinc_4, o_iload_2, o_iload_3, o_iload_4, o_iload_5, o_ist_2, o_ist_3, o_ist_4, o_ist_5, o_lald_e, o_last_e, o_lil_e, o_ll_e, o_vret_e, tl_n, tl_s, true_and, xc1_i, xc1_r, xnlv_i, xnlv_n, xnlv_r, xwt_0, xwt_f, xwt_i, xwt_l, xwt_r, hL.cls, hL.g0, hL.g1, hL.g2, hL.g3, hL.g4, hL.g5, hL.g6, hL.g7, hL.g8, hL.g9, hL.g10, hL.g11]
    refine c_cells hL ?_
    simp only [eX0_touch_0, eX0_touch_1, eX0_touch_4, eX0_touch_5, eX0_touch_8, eX0_touch_9, eX0_touch_11, eX0_touch_12, eX0_touch_15, eX0_touch_18, eX0_touch_19, eX0_touch_21, eX0_touch_22, eX0_touch_23, eX0_touch_24, eX0_touch_28, eX0_touch_29, eX0_touch_30, eX0_touch_33, eX0_touch_34, eX0_touch_37, eX0_touch_38, eX0_touch_41, eX0_touch_43, eX0_touch_44, eX0_touch_46, eX0_touch_48, eX0_touch_51, eX0_touch_52, eX0_touch_55, eX0_touch_57, eX0_touch_58, eX0_touch_59, eX0_touch_62, eX0_touch_63, eX0_touch_64, eX0_touch_67, eX0_touch_68, eX0_touch_71, eX0_touch_72, eX0_touch_75, eX0_touch_76, eX0_touch_77, eX0_touch_78, eX0_touch_79, eX0_touch_80, eX0_touch_81, eX0_touch_84, eX0_touch_86, eX0_touch_87, eX0_touch_88, eX0_touch_89, eX0_touch_90, eX0_touch_93, eX0_touch_96, eX0_touch_99, eX0_touch_102, Nat.add_zero, Nat.reduceAdd, Nat.reduceLeDiff, Nat.zero_le, and_true, o_aload_0r, o_aload_1r, o_callS_2, o_callV_0, o_const_e, o_dup2_e, o_getf_e, o_goto_e, o_iald_e, o_iald_f, o_icmp_e, o_if_e, o_ii_e, o_iinc_2, o_iinc_4, o_iload_2, o_iload_3, o_iload_4, o_iload_5, o_ist_2, o_ist_3, o_ist_4, o_ist_5, o_lald_e, o_last_e, o_lil_e, o_ll_e, o_vret_e, tl_n, tl_s, true_and, xc1_i, xc1_r, xnlv_i, xnlv_n, xnlv_r, xwt_0, xwt_f, xwt_i, xwt_l, xwt_r, le_nI (a := x.n) (b := c) (by omega) (by omega)]
    refine ⟨fun _ => ?_, fun g => by omega⟩
    have e : c = x.n := by omega
    subst e
    exact k to hR
  | succ n ih =>
    intro c hc to w3 w4 w5 v3 v4 hR
    have hL := hg.lat hl sep (s.wto to)
    rw [eX0_touch_10]
    simp only [eX0_touch_0, eX0_touch_1, eX0_touch_4, eX0_touch_5, eX0_touch_8, eX0_touch_9, eX0_touch_11, eX0_touch_12, eX0_touch_15, eX0_touch_18, eX0_touch_19, eX0_touch_21, eX0_touch_22, eX0_touch_23, eX0_touch_24, eX0_touch_28, eX0_touch_29, eX0_touch_30, eX0_touch_33, eX0_touch_34, eX0_touch_37, eX0_touch_38, eX0_touch_41, eX0_touch_43, eX0_touch_44, eX0_touch_46, eX0_touch_48, eX0_touch_51, eX0_touch_52, eX0_touch_55, eX0_touch_57, eX0_touch_58, eX0_touch_59, eX0_touch_62, eX0_touch_63, eX0_touch_64, eX0_touch_67, eX0_touch_68, eX0_touch_71, eX0_touch_72, eX0_touch_75, eX0_touch_76, eX0_touch_77, eX0_touch_78, eX0_touch_79, eX0_touch_80, eX0_touch_81, eX0_touch_84, eX0_touch_86, eX0_touch_87, eX0_touch_88, eX0_touch_89, eX0_touch_90, eX0_touch_93, eX0_touch_96, eX0_touch_99, eX0_touch_102, Nat.add_zero, Nat.reduceAdd, Nat.reduceLeDiff, Nat.zero_le, and_true, o_aload_0r, o_aload_1r, o_callS_2, o_callV_0, o_const_e, o_dup2_e, o_getf_e, o_goto_e, o_iald_e, o_iald_f, o_icmp_e, o_if_e, o_ii_e, o_iinc_2, o_iinc_4, o_iload_2, o_iload_3, o_iload_4, o_iload_5, o_ist_2, o_ist_3, o_ist_4, o_ist_5, o_lald_e, o_last_e, o_lil_e, o_ll_e, o_vret_e, tl_n, tl_s, true_and, xc1_i, xc1_r, xnlv_i, xnlv_n, xnlv_r, xwt_0, xwt_f, xwt_i, xwt_l, xwt_r, hL.cls, hL.g0, hL.g1, hL.g2, hL.g3, hL.g4, hL.g5, hL.g6, hL.g7, hL.g8, hL.g9, hL.g10, hL.g11]
    refine c_cells hL ?_
    simp only [eX0_touch_0, eX0_touch_1, eX0_touch_4, eX0_touch_5, eX0_touch_8, eX0_touch_9, eX0_touch_11, eX0_touch_12, eX0_touch_15, eX0_touch_18, eX0_touch_19, eX0_touch_21, eX0_touch_22, eX0_touch_23, eX0_touch_24, eX0_touch_28, eX0_touch_29, eX0_touch_30, eX0_touch_33, eX0_touch_34, eX0_touch_37, eX0_touch_38, eX0_touch_41, eX0_touch_43, eX0_touch_44, eX0_touch_46, eX0_touch_48, eX0_touch_51, eX0_touch_52, eX0_touch_55, eX0_touch_57, eX0_touch_58, eX0_touch_59, eX0_touch_62, eX0_touch_63, eX0_touch_64, eX0_touch_67, eX0_touch_68, eX0_touch_71, eX0_touch_72, eX0_touch_75, eX0_touch_76, eX0_touch_77, eX0_touch_78, eX0_touch_79, eX0_touch_80, eX0_touch_81, eX0_touch_84, eX0_touch_86, eX0_touch_87, eX0_touch_88, eX0_touch_89, eX0_touch_90, eX0_touch_93, eX0_touch_96, eX0_touch_99, eX0_touch_102, Nat.add_zero, Nat.reduceAdd, Nat.reduceLeDiff, Nat.zero_le, and_true, o_aload_0r, o_aload_1r, o_callS_2, o_callV_0, o_const_e, o_dup2_e, o_getf_e, o_goto_e, o_iald_e, o_iald_f, o_icmp_e, o_if_e, o_ii_e, o_iinc_2, o_iinc_4, o_iload_2, o_iload_3, o_iload_4, o_iload_5, o_ist_2, o_ist_3, o_ist_4, o_ist_5, o_lald_e, o_last_e, o_lil_e, o_ll_e, o_vret_e, tl_n, tl_s, true_and, xc1_i, xc1_r, xnlv_i, xnlv_n, xnlv_r, xwt_0, xwt_f, xwt_i, xwt_l, xwt_r, le_nI (a := x.n) (b := c) (by omega) (by omega), n8, pk_mul, v3, v4]
    refine ⟨fun g => by omega, fun _ => ?_⟩
    refine l_tI hg hl sep ok hk hgo (by omega) (m := tM x c) (fun to' w hR' => ?_) x.nd 0 (by omega) to _ hR
    simp only [eX0_touch_0, eX0_touch_1, eX0_touch_4, eX0_touch_5, eX0_touch_8, eX0_touch_9, eX0_touch_11, eX0_touch_12, eX0_touch_15, eX0_touch_18, eX0_touch_19, eX0_touch_21, eX0_touch_22, eX0_touch_23, eX0_touch_24, eX0_touch_28, eX0_touch_29, eX0_touch_30, eX0_touch_33, eX0_touch_34, eX0_touch_37, eX0_touch_38, eX0_touch_41, eX0_touch_43, eX0_touch_44, eX0_touch_46, eX0_touch_48, eX0_touch_51, eX0_touch_52, eX0_touch_55, eX0_touch_57, eX0_touch_58, eX0_touch_59, eX0_touch_62, eX0_touch_63, eX0_touch_64, eX0_touch_67, eX0_touch_68, eX0_touch_71, eX0_touch_72, eX0_touch_75, eX0_touch_76, eX0_touch_77, eX0_touch_78, eX0_touch_79, eX0_touch_80, eX0_touch_81, eX0_touch_84, eX0_touch_86, eX0_touch_87, eX0_touch_88, eX0_touch_89, eX0_touch_90, eX0_touch_93, eX0_touch_96, eX0_touch_99, eX0_touch_102, Nat.add_zero, Nat.reduceAdd, Nat.reduceLeDiff, Nat.zero_le, and_true, o_aload_0r, o_aload_1r, o_callS_2, o_callV_0, o_const_e, o_dup2_e, o_getf_e, o_goto_e, o_iald_e, o_iald_f, o_icmp_e, o_if_e, o_ii_e, o_iinc_2, o_iinc_4, o_iload_2, o_iload_3, o_iload_4, o_iload_5, o_ist_2, o_ist_3, o_ist_4, o_ist_5, o_lald_e, o_last_e, o_lil_e, o_ll_e, o_vret_e, tl_n, tl_s, true_and, xc1_i, xc1_r, xnlv_i, xnlv_n, xnlv_r, xwt_0, xwt_f, xwt_i, xwt_l, xwt_r, n1, nI_add]
    exact ih (c + 1) (by omega) to' _ _ _ trivial trivial hR'
/-- Grains.touch(lattice) -/
theorem c_touch (hg : GraAt AH g s) (hl : LatAt AH b x lk pr) (sep : b + 5 ≤ g ∨ g + 6 ≤ b) (ok : x.ok) (hk : LkOK x lk) (hgo : ∀ i, i < 36 → s.go i = lkV (x.G i)) {Q : Option Value → xH → Prop} (k : ∀ to : Nat → Int64, TcOK (tM x x.n) to → Q none (graP AH g (s.wto to))) : XC MX0_touch [.ref g, .ref b] AH Q := by
  refine XC.ofR (L := [some (.ref g), some (.ref b), none, none, none, none]) KX0_touch (by decide +kernel) (by first | decide | exact Nat.le_of_ble_eq_true rfl) rfl ?_
  simp only [eX0_touch_0, eX0_touch_1, eX0_touch_4, eX0_touch_5, eX0_touch_8, eX0_touch_9, eX0_touch_11, eX0_touch_12, eX0_touch_15, eX0_touch_18, eX0_touch_19, eX0_touch_21, eX0_touch_22, eX0_touch_23, eX0_touch_24, eX0_touch_26, eX0_touch_28, eX0_touch_29, eX0_touch_30, eX0_touch_33, eX0_touch_34, eX0_touch_37, eX0_touch_38, eX0_touch_41, eX0_touch_43, eX0_touch_44, eX0_touch_46, eX0_touch_48, eX0_touch_51, eX0_touch_52, eX0_touch_55, eX0_touch_57, eX0_touch_58, eX0_touch_59, eX0_touch_62, eX0_touch_63, eX0_touch_64, eX0_touch_67, eX0_touch_68, eX0_touch_71, eX0_touch_72, eX0_touch_75, eX0_touch_76, eX0_touch_77, eX0_touch_78, eX0_touch_79, eX0_touch_80, eX0_touch_81, eX0_touch_84, eX0_touch_86, eX0_touch_87, eX0_touch_88, eX0_touch_89, eX0_touch_90, eX0_touch_93, eX0_touch_96, eX0_touch_99, eX0_touch_102, Nat.add_zero, Nat.reduceAdd, Nat.reduceLeDiff, Nat.zero_le, and_true, o_aload_0r, o_aload_1r, o_callS_2, o_callV_0, o_const_e, o_dup2_e, o_getf_e, o_goto_e, o_iald_e, o_iald_f, o_icmp_e, o_if_e, o_ii_e, o_iinc_2, o_iinc_4, o_iload_2, o_iload_3, o_iload_4, o_iload_5, o_ist_2, o_ist_3, o_ist_4, o_ist_5, o_lald_e, o_last_e, o_lil_e, o_ll_e, o_vret_e, tl_n, tl_s, true_and, xc1_i, xc1_r, xnlv_i, xnlv_n, xnlv_r, xwt_0, xwt_f, xwt_i, xwt_l, xwt_r, hg.cls, hg.g0, hg.g1, hg.g2, hg.g3, hg.g4, hg.g5]
  refine c_fillL (by decide) (hg 4 _ rfl) ?_
  rw [hg.a_to]
  simp only [eX0_touch_0, eX0_touch_1, eX0_touch_4, eX0_touch_5, eX0_touch_8, eX0_touch_9, eX0_touch_11, eX0_touch_12, eX0_touch_15, eX0_touch_18, eX0_touch_19, eX0_touch_21, eX0_touch_22, eX0_touch_23, eX0_touch_24, eX0_touch_26, eX0_touch_28, eX0_touch_29, eX0_touch_30, eX0_touch_33, eX0_touch_34, eX0_touch_37, eX0_touch_38, eX0_touch_41, eX0_touch_43, eX0_touch_44, eX0_touch_46, eX0_touch_48, eX0_touch_51, eX0_touch_52, eX0_touch_55, eX0_touch_57, eX0_touch_58, eX0_touch_59, eX0_touch_62, eX0_touch_63, eX0_touch_64, eX0_touch_67, eX0_touch_68, eX0_touch_71, eX0_touch_72, eX0_touch_75, eX0_touch_76, eX0_touch_77, eX0_touch_78, eX0_touch_79, eX0_touch_80, eX0_touch_81, eX0_touch_84, eX0_touch_86, eX0_touch_87, eX0_touch_88, eX0_touch_89, eX0_touch_90, eX0_touch_93, eX0_touch_96, eX0_touch_99, eX0_touch_102, Nat.add_zero, Nat.reduceAdd, Nat.reduceLeDiff, Nat.zero_le, and_true, o_aload_0r, o_aload_1r, o_callS_2, o_callV_0, o_const_e, o_dup2_e, o_getf_e, o_goto_e, o_iald_e, o_iald_f, o_icmp_e, o_if_e, o_ii_e, o_iinc_2, o_iinc_4, o_iload_2, o_iload_3, o_iload_4, o_iload_5, o_ist_2, o_ist_3, o_ist_4, o_ist_5, o_lald_e, o_last_e, o_lil_e, o_ll_e, o_vret_e, tl_n, tl_s, true_and, xc1_i, xc1_r, xnlv_i, xnlv_n, xnlv_r, xwt_0, xwt_f, xwt_i, xwt_l, xwt_r]
  exact l_tM hg hl sep ok hk hgo k x.n 0 (by omega) _ none none none trivial trivial (fun i hi => by rw [if_pos hi]; rfl)
/-- what stands behind find: the cells' numbers, the least cells, the sizes, the masks -/
def GrOK (x : sLat) (s : sGra) : Prop := (∀ i, i < 36 → s.go i = lkV (x.G i)) ∧ (∀ i, i < x.gT → s.ls i = nI (x.gL i)) ∧ (∀ i, i < x.gT → s.sz i = nI (x.gS i)) ∧ TcOK (tM x x.n) s.to ∧ s.tt = nI x.gT
/-- so far -/
def GrTo (x : sLat) (c : Nat) (s : sGra) : Prop := (∀ i, i < 36 → s.go i = lkV ((fS x c).1 i)) ∧ (∀ i, i < (fS x c).2.1 → s.ls i = nI ((fS x c).2.2.1 i)) ∧ (∀ i, i < (fS x c).2.1 → s.sz i = nI ((fS x c).2.2.2 i)) ∧ s.tt = nI (fS x c).2.1
theorem l_find (hg : GraAt AH g s) (hl : LatAt AH b x lk pr) (sep : b + 5 ≤ g ∨ g + 6 ≤ b) (ok : x.ok) (hk : LkOK x lk) {Q : xQ} (k : ∀ s' : sGra, GrOK x s' → Q none (graP AH g s') (0, 0)) : ∀ (n c : Nat), c + n = x.n → ∀ s' : sGra, GrTo x c s' →
    XR TX0_find 16 [some (.ref g), some (.ref b), some (.int (nI c))] [] (graP AH g s') (0, 0) Q := by
  have hn := sLat.n36 ok
  intro n
  induction n with
  | zero =>
    intro c hc s' hR
    have hL := hg.lat hl sep s'
    have hA := hg.put s'
    rw [eX0_find_16]
    simp only [eX0_find_0, eX0_find_1, eX0_find_2, eX0_find_5, eX0_find_6, eX0_find_9, eX0_find_11, eX0_find_14, eX0_find_15, eX0_find_17, eX0_find_18, eX0_find_21, eX0_find_24, eX0_find_25, eX0_find_28, eX0_find_29, eX0_find_30, eX0_find_33, eX0_find_34, eX0_find_35, eX0_find_36, eX0_find_39, eX0_find_42, eX0_find_45, eX0_find_46, eX0_find_47, eX0_find_50, Nat.add_zero, Nat.reduceAdd, Nat.reduceLeDiff, Nat.zero_le, and_true, o_aload_0r, o_aload_1r, o_callS_2, o_callV_0, o_callV_1, o_callV_2, o_const_e, o_getf_e, o_goto_e, o_iald_e, o_iald_f, o_icmp_e, o_if_e, o_iinc_2, o_iload_2, o_ist_2, o_putf_e, o_vret_e, tl_n, tl_s, true_and, xfit_a, xfit_i, xfit_l, xfit_o, xnlv_i, xnlv_n, xnlv_r, xwt_0, xwt_f, xwt_i, xwt_l, xwt_r, hL.cls, hL.g0, hL.g1, hL.g2, hL.g3, hL.g4, hL.g5, hL.g6, hL.g7, hL.g8, hL.g9, hL.g10, hL.g11]
    refine c_cells hL ?_
    simp only [eX0_find_0, eX0_find_1, eX0_find_2, eX0_find_5, eX0_find_6, eX0_find_9, eX0_find_11, eX0_find_14, eX0_find_15, eX0_find_17, eX0_find_18, eX0_find_21, eX0_find_24, eX0_find_25, eX0_find_28, eX0_find_29, eX0_find_30, eX0_find_33, eX0_find_34, eX0_find_35, eX0_find_36, eX0_find_39, eX0_find_42, eX0_find_45, eX0_find_46, eX0_find_47, eX0_find_50, Nat.add_zero, Nat.reduceAdd, Nat.reduceLeDiff, Nat.zero_le, and_true, o_aload_0r, o_aload_1r, o_callS_2, o_callV_0, o_callV_1, o_callV_2, o_const_e, o_getf_e, o_goto_e, o_iald_e, o_iald_f, o_icmp_e, o_if_e, o_iinc_2, o_iload_2, o_ist_2, o_putf_e, o_vret_e, tl_n, tl_s, true_and, xfit_a, xfit_i, xfit_l, xfit_o, xnlv_i, xnlv_n, xnlv_r, xwt_0, xwt_f, xwt_i, xwt_l, xwt_r, le_nI (a := x.n) (b := c) (by omega) (by omega), hA.cls, hA.g0, hA.g1, hA.g2, hA.g3, hA.g4, hA.g5]
    refine ⟨fun _ => ?_, fun g => by omega⟩
    have e : c = x.n := by omega
    subst e
    refine c_touch hA hL sep ok hk hR.1 (fun to ht => ?_)
    rw [graP_graP hg.lt]
    simp only [eX0_find_0, eX0_find_1, eX0_find_2, eX0_find_5, eX0_find_6, eX0_find_9, eX0_find_11, eX0_find_14, eX0_find_15, eX0_find_17, eX0_find_18, eX0_find_21, eX0_find_24, eX0_find_25, eX0_find_28, eX0_find_29, eX0_find_30, eX0_find_33, eX0_find_34, eX0_find_35, eX0_find_36, eX0_find_39, eX0_find_42, eX0_find_45, eX0_find_46, eX0_find_47, eX0_find_50, Nat.add_zero, Nat.reduceAdd, Nat.reduceLeDiff, Nat.zero_le, and_true, o_aload_0r, o_aload_1r, o_callS_2, o_callV_0, o_callV_1, o_callV_2, o_const_e, o_getf_e, o_goto_e, o_iald_e, o_iald_f, o_icmp_e, o_if_e, o_iinc_2, o_iload_2, o_ist_2, o_putf_e, o_vret_e, tl_n, tl_s, true_and, xfit_a, xfit_i, xfit_l, xfit_o, xnlv_i, xnlv_n, xnlv_r, xwt_0, xwt_f, xwt_i, xwt_l, xwt_r]
    exact k _ ⟨hR.1, hR.2.1, hR.2.2.1, ht, hR.2.2.2⟩
  | succ n ih =>
    intro c hc s' hR
    have hL := hg.lat hl sep s'
    have hA := hg.put s'
    have ht := fS_t (x := x) c
    have ih := ih (c + 1) (by omega)
    rw [eX0_find_16]
    simp only [eX0_find_0, eX0_find_1, eX0_find_2, eX0_find_5, eX0_find_6, eX0_find_9, eX0_find_11, eX0_find_14, eX0_find_15, eX0_find_17, eX0_find_18, eX0_find_21, eX0_find_24, eX0_find_25, eX0_find_28, eX0_find_29, eX0_find_30, eX0_find_33, eX0_find_34, eX0_find_35, eX0_find_36, eX0_find_39, eX0_find_42, eX0_find_45, eX0_find_46, eX0_find_47, eX0_find_50, Nat.add_zero, Nat.reduceAdd, Nat.reduceLeDiff, Nat.zero_le, and_true, o_aload_0r, o_aload_1r, o_callS_2, o_callV_0, o_callV_1, o_callV_2, o_const_e, o_getf_e, o_goto_e, o_iald_e, o_iald_f, o_icmp_e, o_if_e, o_iinc_2, o_iload_2, o_ist_2, o_putf_e, o_vret_e, tl_n, tl_s, true_and, xfit_a, xfit_i, xfit_l, xfit_o, xnlv_i, xnlv_n, xnlv_r, xwt_0, xwt_f, xwt_i, xwt_l, xwt_r, hL.cls, hL.g0, hL.g1, hL.g2, hL.g3, hL.g4, hL.g5, hL.g6, hL.g7, hL.g8, hL.g9, hL.g10, hL.g11]
    refine c_cells hL ?_
    simp only [eX0_find_0, eX0_find_1, eX0_find_2, eX0_find_5, eX0_find_6, eX0_find_9, eX0_find_11, eX0_find_14, eX0_find_15, eX0_find_17, eX0_find_18, eX0_find_21, eX0_find_24, eX0_find_25, eX0_find_28, eX0_find_29, eX0_find_30, eX0_find_33, eX0_find_34, eX0_find_35, eX0_find_36, eX0_find_39, eX0_find_42, eX0_find_45, eX0_find_46, eX0_find_47, eX0_find_50, Nat.add_zero, Nat.reduceAdd, Nat.reduceLeDiff, Nat.zero_le, and_true, o_aload_0r, o_aload_1r, o_callS_2, o_callV_0, o_callV_1, o_callV_2, o_const_e, o_getf_e, o_goto_e, o_iald_e, o_iald_f, o_icmp_e, o_if_e, o_iinc_2, o_iload_2, o_ist_2, o_putf_e, o_vret_e, tl_n, tl_s, true_and, xfit_a, xfit_i, xfit_l, xfit_o, xnlv_i, xnlv_n, xnlv_r, xwt_0, xwt_f, xwt_i, xwt_l, xwt_r, le_nI (a := x.n) (b := c) (by omega) (by omega), hA.cls, hA.g0, hA.g1, hA.g2, hA.g3, hA.g4, hA.g5, hA.r_go (c := c) (by omega)]
    refine ⟨fun g => by omega, fun _ => ?_⟩
    rw [hR.1 c (by omega), lkV_neg _ (fun j hj => by have := (fS_G c).1 c j hj; omega)]
    unfold GrTo at ih
    rw [fS_s] at ih
    refine ⟨fun g1 => ?_, fun g1 => ?_⟩
    · rw [if_neg g1] at ih
      rw [n1, nI_add]
      exact ih s' hR
    · have g1 := Classical.not_not.mp g1
      rw [if_pos g1] at ih
      dsimp only at ih
      refine c_spread hA hL sep ok hk (by omega) (by omega) hR.2.2.2 g1 (fun o j hj => (fS_G c).1 o j hj) hR.1 (fun go qu hgo => ?_)
      rw [graP_graP hg.lt]
      simp only [eX0_find_0, eX0_find_1, eX0_find_2, eX0_find_5, eX0_find_6, eX0_find_9, eX0_find_11, eX0_find_14, eX0_find_15, eX0_find_17, eX0_find_18, eX0_find_21, eX0_find_24, eX0_find_25, eX0_find_28, eX0_find_29, eX0_find_30, eX0_find_33, eX0_find_34, eX0_find_35, eX0_find_36, eX0_find_39, eX0_find_42, eX0_find_45, eX0_find_46, eX0_find_47, eX0_find_50, Nat.add_zero, Nat.reduceAdd, Nat.reduceLeDiff, Nat.zero_le, and_true, o_aload_0r, o_aload_1r, o_callS_2, o_callV_0, o_callV_1, o_callV_2, o_const_e, o_getf_e, o_goto_e, o_iald_e, o_iald_f, o_icmp_e, o_if_e, o_iinc_2, o_iload_2, o_ist_2, o_putf_e, o_vret_e, tl_n, tl_s, true_and, xfit_a, xfit_i, xfit_l, xfit_o, xnlv_i, xnlv_n, xnlv_r, xwt_0, xwt_f, xwt_i, xwt_l, xwt_r, n1, nI_add]
      refine ih _ ⟨hgo, fun i hi => ?_, fun i hi => ?_, rfl⟩
      · show upd s'.ls (fS x c).2.1 (nI c) i = _
        unfold upd va_up
        split
        · rfl
        · exact hR.2.1 i (by omega)
      · show upd s'.sz (fS x c).2.1 _ i = _
        unfold upd va_up
        split
        · rfl
        · exact hR.2.2.1 i (by omega)
/-- Grains.find(lattice) -/
theorem c_find (hg : GraAt AH g s) (hl : LatAt AH b x lk pr) (sep : b + 5 ≤ g ∨ g + 6 ≤ b) (ok : x.ok) (hk : LkOK x lk) {Q : Option Value → xH → Prop} (k : ∀ s' : sGra, GrOK x s' → Q none (graP AH g s')) : XC MX0_find [.ref g, .ref b] AH Q := by
  have h1 := hg.put (s.wtt 0)
  refine XC.ofR (L := [some (.ref g), some (.ref b), none]) KX0_find (by decide +kernel) (by first | decide | exact Nat.le_of_ble_eq_true rfl) rfl ?_
  simp only [eX0_find_0, eX0_find_1, eX0_find_2, eX0_find_5, eX0_find_6, eX0_find_9, eX0_find_11, eX0_find_14, eX0_find_15, eX0_find_17, eX0_find_18, eX0_find_21, eX0_find_24, eX0_find_25, eX0_find_28, eX0_find_29, eX0_find_30, eX0_find_33, eX0_find_34, eX0_find_35, eX0_find_36, eX0_find_39, eX0_find_42, eX0_find_45, eX0_find_46, eX0_find_47, eX0_find_50, Nat.add_zero, Nat.reduceAdd, Nat.reduceLeDiff, Nat.zero_le, and_true, o_aload_0r, o_aload_1r, o_callS_2, o_callV_0, o_callV_1, o_callV_2, o_const_e, o_getf_e, o_goto_e, o_iald_e, o_iald_f, o_icmp_e, o_if_e, o_iinc_2, o_iload_2, o_ist_2, o_putf_e, o_vret_e, tl_n, tl_s, true_and, xfit_a, xfit_i, xfit_l, xfit_o, xnlv_i, xnlv_n, xnlv_r, xwt_0, xwt_f, xwt_i, xwt_l, xwt_r, hg.p_tt, h1.cls, h1.g0, h1.g1, h1.g2, h1.g3, h1.g4, h1.g5]
  refine c_fillI (by decide) (h1 1 _ rfl) ?_
  rw [h1.a_go, graP_graP hg.lt]
  simp only [eX0_find_0, eX0_find_1, eX0_find_2, eX0_find_5, eX0_find_6, eX0_find_9, eX0_find_11, eX0_find_14, eX0_find_15, eX0_find_17, eX0_find_18, eX0_find_21, eX0_find_24, eX0_find_25, eX0_find_28, eX0_find_29, eX0_find_30, eX0_find_33, eX0_find_34, eX0_find_35, eX0_find_36, eX0_find_39, eX0_find_42, eX0_find_45, eX0_find_46, eX0_find_47, eX0_find_50, Nat.add_zero, Nat.reduceAdd, Nat.reduceLeDiff, Nat.zero_le, and_true, o_aload_0r, o_aload_1r, o_callS_2, o_callV_0, o_callV_1, o_callV_2, o_const_e, o_getf_e, o_goto_e, o_iald_e, o_iald_f, o_icmp_e, o_if_e, o_iinc_2, o_iload_2, o_ist_2, o_putf_e, o_vret_e, tl_n, tl_s, true_and, xfit_a, xfit_i, xfit_l, xfit_o, xnlv_i, xnlv_n, xnlv_r, xwt_0, xwt_f, xwt_i, xwt_l, xwt_r]
  exact l_find hg hl sep ok hk k x.n 0 (by omega) _ ⟨fun i hi => by show (if i < 36 then _ else _) = _; rw [if_pos hi]; rfl, fun i hi => absurd hi (Nat.not_lt_zero i), fun i hi => absurd hi (Nat.not_lt_zero i), rfl⟩
end TCH
