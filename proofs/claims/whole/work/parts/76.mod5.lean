/-! the reference: its constructor, and all that it holds -/
def z32 : Nat → Int32 := fun _ => 0
def z64 : Nat → Int64 := fun _ => 0
def sZ (nw so : Nat → Int32) : sMod := (nw, z32, z32, 0, z32, 0, z64, so, z32, 0, z32, z32, z32, z32, z32, z32, 0, z32, z32, 0)
def r0 : sRow := (z32, 0, z32, 0, z32, 0)
theorem nF_0 : upd (upd (upd (upd z32 0 (nI 6)) 1 (nI 6)) 6 (nI 1)) 7 (nI 1) = nF x0 r0 := by
  funext i
  unfold upd nF
  by_cases h7 : i = 7
  · subst h7; rfl
  by_cases h6 : i = 6
  · subst h6; rfl
  by_cases h1 : i = 1
  · subst h1; rfl
  by_cases h0 : i = 0
  · subst h0; rfl
  by_cases h2 : i = 2
  · subst h2; rfl
  by_cases h3 : i = 3
  · subst h3; rfl
  by_cases h4 : i = 4
  · subst h4; rfl
  by_cases h5 : i = 5
  · subst h5; rfl
  by_cases h8 : i = 8
  · subst h8; rfl
  by_cases h9 : i = 9
  · subst h9; rfl
  by_cases h10 : i = 10
  · subst h10; rfl
  rw [if_neg h7, if_neg h6, if_neg h1, if_neg h0, if_neg h0, if_neg h1, if_neg h2, if_neg h3, if_neg h4, if_neg h5, if_neg h6, if_neg h7, if_neg h8, if_neg h9, if_neg h10]
  by_cases k47 : i < 47
  · rw [if_pos k47]; rfl
  rw [if_neg k47]
  by_cases k83 : i < 83
  · rw [if_pos k83]; rfl
  rw [if_neg k83]
  by_cases k89 : i < 89
  · rw [if_pos k89]; rfl
  rw [if_neg k89]
  by_cases k105 : i < 105
  · rw [if_pos k105]; rfl
  rw [if_neg k105]
  by_cases k113 : i < 113
  · rw [if_pos k113]; rfl
  rw [if_neg k113]
  rfl
theorem n360 : (360 : Int32) = nI 360 := rfl
def MAt (A : xH) (m : Nat) (S : sCls) : Prop := ∃ (s : sMod) (r : sRow), MoL A m s S.x r ∧ RwM S.p r ∧ TpM S.T s ∧ s.wr = nI S.n ∧ (∀ i, i < S.n → s.tx i = nI (S.f i)) ∧ s.kz ∧ (∀ i, 113 ≤ i → s.im i = 0) ∧ s.hI = imB S.im ∧ ∀ z, S.im = some z → ∃ r2, s.im = nF z.1 r2 ∧ RwM z.2 r2
theorem MAt.fr {A B : xH} {m lo hi : Nat} {S : sCls} (h : MAt A m S) (F : Fr A B lo hi) (sep : m + 16 ≤ lo ∨ hi ≤ m) : MAt B m S := by
  obtain ⟨s, r, h1, h2⟩ := h
  exact ⟨s, r, ⟨BlkAt.fr2 h1.1 F sep, h1.2⟩, h2⟩
section MCT
variable {AH : xH} {m : Nat}
theorem l_mod {H : xH} (h : ModAt H m (sZ z32 z32)) {Q : xQ} (k : ∀ so : Nat → Int32, (∀ t, t < 6 → so t = -1) → Q none (modP H m (sZ (nF x0 r0) so)) (15, 1043)) : ∀ (z i : Nat), i + z = 6 → ∀ so : Nat → Int32, (∀ t, t < i → so t = -1) →
    XR TX7_init 158 [some (.ref m), some (.int (nI i))] [] (modP H m (sZ (nF x0 r0) so)) (15, 1043) Q := by
  intro z
  induction z with
  | zero =>
    intro i hi so hs
    have e6 : i = 6 := by omega
    subst e6
    have eF : (6 ≤ 6) = True := eq_true (Nat.le_refl 6)
    rw [eX7_init_158]
    simp only [eX7_init_0, eX7_init_1, eX7_init_4, eX7_init_5, eX7_init_7, eX7_init_9, eX7_init_12, eX7_init_13, eX7_init_15, eX7_init_17, eX7_init_20, eX7_init_21, eX7_init_23, eX7_init_25, eX7_init_28, eX7_init_29, eX7_init_31, eX7_init_33, eX7_init_36, eX7_init_37, eX7_init_40, eX7_init_42, eX7_init_45, eX7_init_46, eX7_init_48, eX7_init_50, eX7_init_53, eX7_init_54, eX7_init_56, eX7_init_58, eX7_init_61, eX7_init_62, eX7_init_64, eX7_init_66, eX7_init_69, eX7_init_70, eX7_init_72, eX7_init_74, eX7_init_77, eX7_init_78, eX7_init_80, eX7_init_82, eX7_init_85, eX7_init_86, eX7_init_88, eX7_init_90, eX7_init_93, eX7_init_94, eX7_init_96, eX7_init_98, eX7_init_101, eX7_init_102, eX7_init_104, eX7_init_106, eX7_init_109, eX7_init_110, eX7_init_111, eX7_init_113, eX7_init_116, eX7_init_117, eX7_init_119, eX7_init_121, eX7_init_124, eX7_init_125, eX7_init_128, eX7_init_129, eX7_init_131, eX7_init_132, eX7_init_133, eX7_init_136, eX7_init_137, eX7_init_139, eX7_init_140, eX7_init_141, eX7_init_144, eX7_init_146, eX7_init_147, eX7_init_148, eX7_init_149, eX7_init_152, eX7_init_154, eX7_init_155, eX7_init_156, eX7_init_157, eX7_init_159, eX7_init_161, eX7_init_164, eX7_init_165, eX7_init_168, eX7_init_169, eX7_init_170, eX7_init_171, eX7_init_174, eX7_init_177, Nat.add_zero, Nat.reduceAdd, Nat.reduceLeDiff, Nat.zero_le, and_true, o_aload_0r, o_const_e, o_getf_e, o_goto_e, o_iast_e, o_icmp_e, o_iinc_1, o_iload_1, o_ist_1, o_newi_e, o_newl_e, o_objinit_e, o_putf_e, o_vret_e, true_and, xfit_a, xfit_i, xfit_l, xfit_o, xnlv_i, xnlv_n, xnlv_r, xwt_0, xwt_f, xwt_i, xwt_l, xwt_r, n6, le_nI (a := 6) (b := 6) (by omega) (by omega), eF, not_true_eq_false, not_false_eq_true, true_implies, false_implies, and_true, true_and, implies_true, forall_const, ↓reduceIte, Bool.false_eq_true, i10, i10n]
    exact k so hs
  | succ z ih =>
    intro i hi so hs
    have eF : (6 ≤ i) = False := eq_false (by omega)
    have hA : ModAt (modP H m (sZ (nF x0 r0) so)) m (sZ (nF x0 r0) so) := h.put _
    have e1 : (sZ (nF x0 r0) so).wso (upd (sZ (nF x0 r0) so).so i (-1)) = sZ (nF x0 r0) (upd so i (-1)) := rfl
    have e2 : modP (modP H m (sZ (nF x0 r0) so)) m (sZ (nF x0 r0) (upd so i (-1))) = modP H m (sZ (nF x0 r0) (upd so i (-1))) := modP_modP h.lt
    have e3 : (-nI 1 : Int32) = -1 := rfl
    rw [eX7_init_158]
    simp only [eX7_init_0, eX7_init_1, eX7_init_4, eX7_init_5, eX7_init_7, eX7_init_9, eX7_init_12, eX7_init_13, eX7_init_15, eX7_init_17, eX7_init_20, eX7_init_21, eX7_init_23, eX7_init_25, eX7_init_28, eX7_init_29, eX7_init_31, eX7_init_33, eX7_init_36, eX7_init_37, eX7_init_40, eX7_init_42, eX7_init_45, eX7_init_46, eX7_init_48, eX7_init_50, eX7_init_53, eX7_init_54, eX7_init_56, eX7_init_58, eX7_init_61, eX7_init_62, eX7_init_64, eX7_init_66, eX7_init_69, eX7_init_70, eX7_init_72, eX7_init_74, eX7_init_77, eX7_init_78, eX7_init_80, eX7_init_82, eX7_init_85, eX7_init_86, eX7_init_88, eX7_init_90, eX7_init_93, eX7_init_94, eX7_init_96, eX7_init_98, eX7_init_101, eX7_init_102, eX7_init_104, eX7_init_106, eX7_init_109, eX7_init_110, eX7_init_111, eX7_init_113, eX7_init_116, eX7_init_117, eX7_init_119, eX7_init_121, eX7_init_124, eX7_init_125, eX7_init_128, eX7_init_129, eX7_init_131, eX7_init_132, eX7_init_133, eX7_init_136, eX7_init_137, eX7_init_139, eX7_init_140, eX7_init_141, eX7_init_144, eX7_init_146, eX7_init_147, eX7_init_148, eX7_init_149, eX7_init_152, eX7_init_154, eX7_init_155, eX7_init_156, eX7_init_157, eX7_init_159, eX7_init_161, eX7_init_164, eX7_init_165, eX7_init_168, eX7_init_169, eX7_init_170, eX7_init_171, eX7_init_174, eX7_init_177, Nat.add_zero, Nat.reduceAdd, Nat.reduceLeDiff, Nat.zero_le, and_true, o_aload_0r, o_const_e, o_getf_e, o_goto_e, o_iast_e, o_icmp_e, o_iinc_1, o_iload_1, o_ist_1, o_newi_e, o_newl_e, o_objinit_e, o_putf_e, o_vret_e, true_and, xfit_a, xfit_i, xfit_l, xfit_o, xnlv_i, xnlv_n, xnlv_r, xwt_0, xwt_f, xwt_i, xwt_l, xwt_r, n6, le_nI (a := 6) (b := i) (by omega) (by omega), eF, not_true_eq_false, not_false_eq_true, true_implies, false_implies, and_true, true_and, implies_true, forall_const, ↓reduceIte, Bool.false_eq_true, i10, i10n, hA.g7, hA.w_so (c := i) (by omega), e1, e2]
    have := ih (i + 1) (by omega) (upd so i (-1)) (fun t ht => by
      unfold upd
      by_cases e : t = i
      · rw [if_pos e]
      · rw [if_neg e]
        exact hs t (by omega))
    simp only [eX7_init_0, eX7_init_1, eX7_init_4, eX7_init_5, eX7_init_7, eX7_init_9, eX7_init_12, eX7_init_13, eX7_init_15, eX7_init_17, eX7_init_20, eX7_init_21, eX7_init_23, eX7_init_25, eX7_init_28, eX7_init_29, eX7_init_31, eX7_init_33, eX7_init_36, eX7_init_37, eX7_init_40, eX7_init_42, eX7_init_45, eX7_init_46, eX7_init_48, eX7_init_50, eX7_init_53, eX7_init_54, eX7_init_56, eX7_init_58, eX7_init_61, eX7_init_62, eX7_init_64, eX7_init_66, eX7_init_69, eX7_init_70, eX7_init_72, eX7_init_74, eX7_init_77, eX7_init_78, eX7_init_80, eX7_init_82, eX7_init_85, eX7_init_86, eX7_init_88, eX7_init_90, eX7_init_93, eX7_init_94, eX7_init_96, eX7_init_98, eX7_init_101, eX7_init_102, eX7_init_104, eX7_init_106, eX7_init_109, eX7_init_110, eX7_init_111, eX7_init_113, eX7_init_116, eX7_init_117, eX7_init_119, eX7_init_121, eX7_init_124, eX7_init_125, eX7_init_128, eX7_init_129, eX7_init_131, eX7_init_132, eX7_init_133, eX7_init_136, eX7_init_137, eX7_init_139, eX7_init_140, eX7_init_141, eX7_init_144, eX7_init_146, eX7_init_147, eX7_init_148, eX7_init_149, eX7_init_152, eX7_init_154, eX7_init_155, eX7_init_156, eX7_init_157, eX7_init_159, eX7_init_161, eX7_init_164, eX7_init_165, eX7_init_168, eX7_init_169, eX7_init_170, eX7_init_171, eX7_init_174, eX7_init_177, Nat.add_zero, Nat.reduceAdd, Nat.reduceLeDiff, Nat.zero_le, and_true, o_aload_0r, o_const_e, o_getf_e, o_goto_e, o_iast_e, o_icmp_e, o_iinc_1, o_iload_1, o_ist_1, o_newi_e, o_newl_e, o_objinit_e, o_putf_e, o_vret_e, true_and, xfit_a, xfit_i, xfit_l, xfit_o, xnlv_i, xnlv_n, xnlv_r, xwt_0, xwt_f, xwt_i, xwt_l, xwt_r, n1, nI_add]
    exact this
theorem n_mod (hl : AH.length = m + 1) (hb : AH[m]? = some (.inr (7, [.null, .null, .null, .int 0, .null, .int 0, .null, .null, .null, .int 0, .null, .null, .null, .null, .null, .null, .int 0, .null, .null, .int 0]))) {Q : Option Value → xH → Prop} (k : ∀ A, Gr AH A m 16 → MAt A m S0 → Q none A) : XC MX7_init [.ref m] AH Q := by
  obtain ⟨A0, rfl, rfl⟩ := tl_of hl hb
  refine XC.ofR (L := [some (.ref A0.length), none]) KX7_init (by decide +kernel) (by first | decide | exact Nat.le_of_ble_eq_true rfl) rfl ?_
  simp only [eX7_init_0, eX7_init_1, eX7_init_4, eX7_init_5, eX7_init_7, eX7_init_9, eX7_init_12, eX7_init_13, eX7_init_15, eX7_init_17, eX7_init_20, eX7_init_21, eX7_init_23, eX7_init_25, eX7_init_28, eX7_init_29, eX7_init_31, eX7_init_33, eX7_init_36, eX7_init_37, eX7_init_40, eX7_init_42, eX7_init_45, eX7_init_46, eX7_init_48, eX7_init_50, eX7_init_53, eX7_init_54, eX7_init_56, eX7_init_58, eX7_init_61, eX7_init_62, eX7_init_64, eX7_init_66, eX7_init_69, eX7_init_70, eX7_init_72, eX7_init_74, eX7_init_77, eX7_init_78, eX7_init_80, eX7_init_82, eX7_init_85, eX7_init_86, eX7_init_88, eX7_init_90, eX7_init_93, eX7_init_94, eX7_init_96, eX7_init_98, eX7_init_101, eX7_init_102, eX7_init_104, eX7_init_106, eX7_init_109, eX7_init_110, eX7_init_111, eX7_init_113, eX7_init_116, eX7_init_117, eX7_init_119, eX7_init_121, eX7_init_125, eX7_init_128, eX7_init_129, eX7_init_131, eX7_init_132, eX7_init_133, eX7_init_136, eX7_init_137, eX7_init_139, eX7_init_140, eX7_init_141, eX7_init_144, eX7_init_146, eX7_init_147, eX7_init_148, eX7_init_149, eX7_init_152, eX7_init_154, eX7_init_155, eX7_init_156, eX7_init_157, eX7_init_158, eX7_init_159, eX7_init_161, eX7_init_164, eX7_init_165, eX7_init_168, eX7_init_169, eX7_init_170, eX7_init_171, eX7_init_174, eX7_init_177, Nat.add_zero, Nat.reduceAdd, Nat.reduceLeDiff, Nat.zero_le, and_true, o_aload_0r, o_const_e, o_getf_e, o_goto_e, o_iast_e, o_icmp_e, o_iinc_1, o_iload_1, o_ist_1, o_newi_e, o_newl_e, o_objinit_e, o_putf_e, o_vret_e, true_and, xfit_a, xfit_i, xfit_l, xfit_o, xnlv_i, xnlv_n, xnlv_r, xwt_0, xwt_f, xwt_i, xwt_l, xwt_r, List.append_assoc, List.cons_append, List.nil_append, List.length_append, List.length_cons, List.length_nil, Nat.zero_add, Nat.reduceAdd, Nat.reduceLT, Nat.reduceLeDiff, Nat.reducePow, nI_clamp, nlt0, lt0_nI, not_false_eq_true, true_and, xpf_hd, xcls_hd, List.set_cons_succ, List.set_cons_zero, List.set_nil, n113, n100, n360, n6, n12, n36, n4]
  have h : ModAt (A0 ++ modC A0.length (sZ z32 z32)) A0.length (sZ z32 z32) := BlkAt.tl
  show XR TX7_init 124 [some (.ref A0.length), none] [] (A0 ++ modC A0.length (sZ z32 z32)) (15, 1043) (fun v AH' _ => Q v AH')
  have h1 : ModAt (modP (A0 ++ modC A0.length (sZ z32 z32)) A0.length (sZ (upd z32 0 (nI 6)) z32)) A0.length (sZ (upd z32 0 (nI 6)) z32) := h.put _
  have h2 : ModAt (modP (A0 ++ modC A0.length (sZ z32 z32)) A0.length (sZ (upd (upd z32 0 (nI 6)) 1 (nI 6)) z32)) A0.length (sZ (upd (upd z32 0 (nI 6)) 1 (nI 6)) z32) := h.put _
  have h3 : ModAt (modP (A0 ++ modC A0.length (sZ z32 z32)) A0.length (sZ (upd (upd (upd z32 0 (nI 6)) 1 (nI 6)) 6 (nI 1)) z32)) A0.length (sZ (upd (upd (upd z32 0 (nI 6)) 1 (nI 6)) 6 (nI 1)) z32) := h.put _
  have e0 : ∀ f v : Nat → Int32, (sZ f z32).wnw v = sZ v z32 := fun _ _ => rfl
  have e1 : ∀ f : Nat → Int32, (sZ f z32).nw = f := fun _ => rfl
  have e2 : ∀ f g : Nat → Int32, modP (modP (A0 ++ modC A0.length (sZ z32 z32)) A0.length (sZ f z32)) A0.length (sZ g z32) = modP (A0 ++ modC A0.length (sZ z32 z32)) A0.length (sZ g z32) := fun f g => modP_modP h.lt
  simp only [eX7_init_0, eX7_init_1, eX7_init_4, eX7_init_5, eX7_init_7, eX7_init_9, eX7_init_12, eX7_init_13, eX7_init_15, eX7_init_17, eX7_init_20, eX7_init_21, eX7_init_23, eX7_init_25, eX7_init_28, eX7_init_29, eX7_init_31, eX7_init_33, eX7_init_36, eX7_init_37, eX7_init_40, eX7_init_42, eX7_init_45, eX7_init_46, eX7_init_48, eX7_init_50, eX7_init_53, eX7_init_54, eX7_init_56, eX7_init_58, eX7_init_61, eX7_init_62, eX7_init_64, eX7_init_66, eX7_init_69, eX7_init_70, eX7_init_72, eX7_init_74, eX7_init_77, eX7_init_78, eX7_init_80, eX7_init_82, eX7_init_85, eX7_init_86, eX7_init_88, eX7_init_90, eX7_init_93, eX7_init_94, eX7_init_96, eX7_init_98, eX7_init_101, eX7_init_102, eX7_init_104, eX7_init_106, eX7_init_109, eX7_init_110, eX7_init_111, eX7_init_113, eX7_init_116, eX7_init_117, eX7_init_119, eX7_init_121, eX7_init_124, eX7_init_125, eX7_init_128, eX7_init_129, eX7_init_131, eX7_init_132, eX7_init_133, eX7_init_136, eX7_init_137, eX7_init_139, eX7_init_140, eX7_init_141, eX7_init_144, eX7_init_146, eX7_init_147, eX7_init_148, eX7_init_149, eX7_init_152, eX7_init_154, eX7_init_155, eX7_init_156, eX7_init_157, eX7_init_159, eX7_init_161, eX7_init_164, eX7_init_165, eX7_init_168, eX7_init_169, eX7_init_170, eX7_init_171, eX7_init_174, eX7_init_177, Nat.add_zero, Nat.reduceAdd, Nat.reduceLeDiff, Nat.zero_le, and_true, o_aload_0r, o_const_e, o_getf_e, o_goto_e, o_iast_e, o_icmp_e, o_iinc_1, o_iload_1, o_ist_1, o_newi_e, o_newl_e, o_objinit_e, o_putf_e, o_vret_e, true_and, xfit_a, xfit_i, xfit_l, xfit_o, xnlv_i, xnlv_n, xnlv_r, xwt_0, xwt_f, xwt_i, xwt_l, xwt_r, z_nI, n1, n6, n7, h.g0, h.w_nw (c := 0) (by decide), e1, e0, h1.g0, h1.w_nw (c := 1) (by decide), e2, h2.g0, h2.w_nw (c := 6) (by decide), h3.g0, h3.w_nw (c := 7) (by decide), nF_0]
  refine l_mod h (Q := fun v AH' _ => Q v AH') (fun so hso => ?_) 6 0 (by omega) z32 (fun t ht => absurd ht (Nat.not_lt_zero t))
  have F : Fr (A0 ++ modC A0.length (sZ z32 z32)) (modP (A0 ++ modC A0.length (sZ z32 z32)) A0.length (sZ (nF x0 r0) so)) A0.length (A0.length + 16) := Fr.blk h.lt rfl
  have g := Gr.tl (A0 := A0) (e := .inr (7, [.null, .null, .null, .int 0, .null, .int 0, .null, .null, .null, .int 0, .null, .null, .null, .null, .null, .null, .int 0, .null, .null, .int 0])) (cs := modC A0.length (sZ z32 z32)) (n := 16) rfl
  refine k _ ⟨F.1.trans g.1, fun j hj => (F.2 j (Or.inl hj)).trans (g.2 j hj)⟩ ⟨sZ (nF x0 r0) so, r0, ⟨h.put _, rfl⟩, ⟨rfl, rfl, rfl, fun i hi => absurd hi (Nat.not_lt_zero i), fun i hi => absurd hi (Nat.not_lt_zero i), fun i hi => absurd hi (Nat.not_lt_zero i)⟩, ⟨fun t ht => hso t ht, fun t ht => rfl, fun t i ht hi => rfl⟩, rfl, fun i hi => absurd hi (Nat.not_lt_zero i), fun i hi => rfl, fun i hi => rfl, rfl, fun z hz => by cases hz⟩
end MCT
