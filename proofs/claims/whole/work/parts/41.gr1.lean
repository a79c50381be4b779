/-! the class's grains, as their cells hold them -/
def sGra : Type := (Nat → Int32) × (Nat → Int32) × (Nat → Int32) × (Nat → Int64) × (Nat → Int32) × Int32
def sGra.go (s : sGra) : Nat → Int32 := s.1
def sGra.ls (s : sGra) : Nat → Int32 := s.2.1
def sGra.sz (s : sGra) : Nat → Int32 := s.2.2.1
def sGra.to (s : sGra) : Nat → Int64 := s.2.2.2.1
def sGra.qu (s : sGra) : Nat → Int32 := s.2.2.2.2.1
def sGra.tt (s : sGra) : Int32 := s.2.2.2.2.2
def sGra.wgo (s : sGra) (v : Nat → Int32) : sGra := (v, s.ls, s.sz, s.to, s.qu, s.tt)
def sGra.wls (s : sGra) (v : Nat → Int32) : sGra := (s.go, v, s.sz, s.to, s.qu, s.tt)
def sGra.wsz (s : sGra) (v : Nat → Int32) : sGra := (s.go, s.ls, v, s.to, s.qu, s.tt)
def sGra.wto (s : sGra) (v : Nat → Int64) : sGra := (s.go, s.ls, s.sz, v, s.qu, s.tt)
def sGra.wqu (s : sGra) (v : Nat → Int32) : sGra := (s.go, s.ls, s.sz, s.to, v, s.tt)
def sGra.wtt (s : sGra) (v : Int32) : sGra := (s.go, s.ls, s.sz, s.to, s.qu, v)
def graC (g : Nat) (s : sGra) : List xE := [.inr (0, [.ref (g + 1), .ref (g + 2), .ref (g + 3), .ref (g + 4), .ref (g + 5), .int s.tt]), cI 36 s.go, cI 36 s.ls, cI 36 s.sz, cL 36 s.to, cI 36 s.qu]
def GraAt (AH : xH) (g : Nat) (s : sGra) : Prop := BlkAt AH g (graC g s)
def graP (AH : xH) (g : Nat) (s : sGra) : xH := blkP AH g (graC g s)
section GRA
variable {AH : xH} {g : Nat} {s : sGra}
theorem GraAt.lt (h : GraAt AH g s) : g + 6 ≤ AH.length := BlkAt.len h (by show 0 < 6; decide)
theorem GraAt.put (h : GraAt AH g s) (s2 : sGra) : GraAt (graP AH g s2) g s2 := BlkAt.put h.lt
theorem graP_self (h : GraAt AH g s) : graP AH g s = AH := blk_self h (by show 0 < 6; decide)
theorem graP_graP (hl : g + 6 ≤ AH.length) {s2 : sGra} : graP (graP AH g s) g s2 = graP AH g s2 := blk_blk hl rfl
theorem GraAt.out (h : GraAt AH g s) {s2 : sGra} {j : Nat} (hj : j < g ∨ g + 6 ≤ j) : (graP AH g s2)[j]? = AH[j]? := by
  unfold graP
  rw [blk_get h.lt, if_neg (by show ¬ (g ≤ j ∧ j < g + 6); omega)]
theorem GraAt.lat (h : GraAt AH g s) {b : Nat} {x : sLat} {lk pr : Nat → Int32} (hl : LatAt AH b x lk pr) (sep : b + 5 ≤ g ∨ g + 6 ≤ b) (s2 : sGra) : LatAt (graP AH g s2) b x lk pr :=
  ⟨by rw [h.out (by omega)]; exact hl.1, by rw [h.out (by omega)]; exact hl.2.1, by rw [h.out (by omega)]; exact hl.2.2.1, by rw [h.out (by omega)]; exact hl.2.2.2.1, by rw [h.out (by omega)]; exact hl.2.2.2.2⟩
theorem GraAt.cls (h : GraAt AH g s) : xcls AH g 0 = True := xcls_of (h 0 _ rfl)
theorem GraAt.g0 (h : GraAt AH g s) {K : Value → Prop} : xgf AH g 0 0 K = K (.ref (g + 1)) := xgf_of (h 0 _ rfl) rfl
theorem GraAt.g1 (h : GraAt AH g s) {K : Value → Prop} : xgf AH g 0 1 K = K (.ref (g + 2)) := xgf_of (h 0 _ rfl) rfl
theorem GraAt.g2 (h : GraAt AH g s) {K : Value → Prop} : xgf AH g 0 2 K = K (.ref (g + 3)) := xgf_of (h 0 _ rfl) rfl
theorem GraAt.g3 (h : GraAt AH g s) {K : Value → Prop} : xgf AH g 0 3 K = K (.ref (g + 4)) := xgf_of (h 0 _ rfl) rfl
theorem GraAt.g4 (h : GraAt AH g s) {K : Value → Prop} : xgf AH g 0 4 K = K (.ref (g + 5)) := xgf_of (h 0 _ rfl) rfl
theorem GraAt.g5 (h : GraAt AH g s) {K : Value → Prop} : xgf AH g 0 5 K = K (.int s.tt) := xgf_of (h 0 _ rfl) rfl
theorem GraAt.r_go (h : GraAt AH g s) {c : Nat} (hc : c < 36) {K : Int32 → Prop} : xald AH (g + 1) (nI c) K = K (s.go c) := xald_of (h 1 _ rfl) hc (by decide)
theorem GraAt.w_go (h : GraAt AH g s) {c : Nat} {v : Int32} (hc : c < 36) {K : xH → Prop} : xast AH (g + 1) (nI c) v K = K (graP AH g (s.wgo (upd s.go c v))) := by
  rw [xast_of (h 1 _ rfl) hc (by decide)]
  exact congrArg K (blk_set h (by show 1 < 6; decide))
theorem GraAt.a_go (h : GraAt AH g s) {f : Nat → Int32} : AH.set (g + 1) (cI 36 f) = graP AH g (s.wgo f) := blk_set h (by show 1 < 6; decide)
theorem GraAt.l_go (h : GraAt AH g s) {K : Int32 → Prop} : xalen AH (g + 1) K = K (nI 36) := xalen_of (h 1 _ rfl)
theorem GraAt.r_ls (h : GraAt AH g s) {c : Nat} (hc : c < 36) {K : Int32 → Prop} : xald AH (g + 2) (nI c) K = K (s.ls c) := xald_of (h 2 _ rfl) hc (by decide)
theorem GraAt.w_ls (h : GraAt AH g s) {c : Nat} {v : Int32} (hc : c < 36) {K : xH → Prop} : xast AH (g + 2) (nI c) v K = K (graP AH g (s.wls (upd s.ls c v))) := by
  rw [xast_of (h 2 _ rfl) hc (by decide)]
  exact congrArg K (blk_set h (by show 2 < 6; decide))
theorem GraAt.a_ls (h : GraAt AH g s) {f : Nat → Int32} : AH.set (g + 2) (cI 36 f) = graP AH g (s.wls f) := blk_set h (by show 2 < 6; decide)
theorem GraAt.l_ls (h : GraAt AH g s) {K : Int32 → Prop} : xalen AH (g + 2) K = K (nI 36) := xalen_of (h 2 _ rfl)
theorem GraAt.r_sz (h : GraAt AH g s) {c : Nat} (hc : c < 36) {K : Int32 → Prop} : xald AH (g + 3) (nI c) K = K (s.sz c) := xald_of (h 3 _ rfl) hc (by decide)
theorem GraAt.w_sz (h : GraAt AH g s) {c : Nat} {v : Int32} (hc : c < 36) {K : xH → Prop} : xast AH (g + 3) (nI c) v K = K (graP AH g (s.wsz (upd s.sz c v))) := by
  rw [xast_of (h 3 _ rfl) hc (by decide)]
  exact congrArg K (blk_set h (by show 3 < 6; decide))
theorem GraAt.a_sz (h : GraAt AH g s) {f : Nat → Int32} : AH.set (g + 3) (cI 36 f) = graP AH g (s.wsz f) := blk_set h (by show 3 < 6; decide)
theorem GraAt.l_sz (h : GraAt AH g s) {K : Int32 → Prop} : xalen AH (g + 3) K = K (nI 36) := xalen_of (h 3 _ rfl)
theorem GraAt.r_to (h : GraAt AH g s) {c : Nat} (hc : c < 36) {K : Int64 → Prop} : xlald AH (g + 4) (nI c) K = K (s.to c) := xlald_of (h 4 _ rfl) hc (by decide)
theorem GraAt.w_to (h : GraAt AH g s) {c : Nat} {v : Int64} (hc : c < 36) {K : xH → Prop} : xlast AH (g + 4) (nI c) v K = K (graP AH g (s.wto (vp_updL s.to c v))) := by
  rw [xlast_of (h 4 _ rfl) hc (by decide)]
  exact congrArg K (blk_set h (by show 4 < 6; decide))
theorem GraAt.a_to (h : GraAt AH g s) {f : Nat → Int64} : AH.set (g + 4) (cL 36 f) = graP AH g (s.wto f) := blk_set h (by show 4 < 6; decide)
theorem GraAt.r_qu (h : GraAt AH g s) {c : Nat} (hc : c < 36) {K : Int32 → Prop} : xald AH (g + 5) (nI c) K = K (s.qu c) := xald_of (h 5 _ rfl) hc (by decide)
theorem GraAt.w_qu (h : GraAt AH g s) {c : Nat} {v : Int32} (hc : c < 36) {K : xH → Prop} : xast AH (g + 5) (nI c) v K = K (graP AH g (s.wqu (upd s.qu c v))) := by
  rw [xast_of (h 5 _ rfl) hc (by decide)]
  exact congrArg K (blk_set h (by show 5 < 6; decide))
theorem GraAt.a_qu (h : GraAt AH g s) {f : Nat → Int32} : AH.set (g + 5) (cI 36 f) = graP AH g (s.wqu f) := blk_set h (by show 5 < 6; decide)
theorem GraAt.l_qu (h : GraAt AH g s) {K : Int32 → Prop} : xalen AH (g + 5) K = K (nI 36) := xalen_of (h 5 _ rfl)
theorem GraAt.p_tt (h : GraAt AH g s) {v : Int32} {K : xH → Prop} : xpf AH g 0 5 (.int v) K = K (graP AH g (s.wtt v)) := by
  rw [xpf_of (a := g) (fs := _) (h 0 _ rfl) (by show 5 < 6; decide)]
  exact congrArg K (blk_set (i := 0) h (by show 0 < 6; decide))
end GRA
/-! spread -/
/-- the rows go, qu hold the search -/
def spR (V : Option Nat → Int32) (a : sSt) (go qu : Nat → Int32) : Prop := (∀ i, i < 36 → go i = V (a.1 i)) ∧ ∀ i, i < a.2.2 → qu i = nI (a.2.1 i)
theorem spR.push {V : Option Nat → Int32} {a : sSt} {go qu : Nat → Int32} (h : spR V a go qu) {o t : Nat} (hV : V (some t) = nI t) : spR V (va_up a.1 o (some t), va_up a.2.1 a.2.2 o, a.2.2 + 1) (upd go o (nI t)) (upd qu a.2.2 (nI o)) := by
  refine ⟨fun i hi => ?_, fun i hi => ?_⟩
  · show upd go o (nI t) i = V (va_up a.1 o (some t) i)
    unfold upd va_up
    split
    · exact hV.symm
    · exact h.1 i hi
  · have hi : i < a.2.2 + 1 := hi
    show upd qu a.2.2 (nI o) i = nI (va_up a.2.1 a.2.2 o i)
    unfold upd va_up
    split
    · rfl
    · exact h.2 i (by omega)
theorem lkV_neg (r : Option Nat) (h : ∀ j, r = some j → j < 2 ^ 31) : (0 ≤ lkV r) = (r ≠ none) := by
  cases r with
  | none => exact propext ⟨fun g => absurd g (by decide), fun g => absurd rfl g⟩
  | some j => exact propext ⟨fun _ => by simp, fun _ => nI_pos' (h j rfl)⟩
section SPR
variable {AH : xH} {g b : Nat} {s : sGra} {x : sLat} {lk pr : Nat → Int32}
theorem l_spI (hg : GraAt AH g s) (hl : LatAt AH b x lk pr) (sep : b + 5 ≤ g ∨ g + 6 ≤ b) (ok : x.ok) (hk : LkOK x lk) {f t c i : Nat} (hf : f < x.n) (ht : t < 36) (hst : s.tt = nI t) (hc : c < x.n) {a : sSt} (ha : spOK x a) (hG : ∀ o j, a.1 o = some j → j ≤ t) {Q : xQ} (k : ∀ (go qu : Nat → Int32) (w : Option Value), spR lkV (spI x f t c a x.nd) go qu → XR TX0_spread 143 [some (.ref g), some (.ref b), some (.int (nI f)), some (.int (nI (spI x f t c a x.nd).2.2)), some (.int (nI i)), some (.int (nI (c * 8))), some (.int (nI (c * 8 + x.nd))), w] [] (graP AH g ((s.wgo go).wqu qu)) (0, 0) Q) : ∀ (n d : Nat), d + n = x.nd → ∀ (go qu : Nat → Int32) (w : Option Value), spR lkV (spI x f t c a d) go qu →
    XR TX0_spread 54 [some (.ref g), some (.ref b), some (.int (nI f)), some (.int (nI (spI x f t c a d).2.2)), some (.int (nI i)), some (.int (nI (c * 8))), some (.int (nI (c * 8 + d))), w] [] (graP AH g ((s.wgo go).wqu qu)) (0, 0) Q := by
  have hn := sLat.n36 ok
  have hnd := sLat.nd8 (x := x)
  intro n
  induction n with
  | zero =>
    intro d hd go qu w hR
    have hL := hg.lat hl sep ((s.wgo go).wqu qu)
    rw [eX0_spread_54]
    simp only [eX0_spread_0, eX0_spread_1, eX0_spread_4, eX0_spread_5, eX0_spread_6, eX0_spread_7, eX0_spread_8, eX0_spread_11, eX0_spread_12, eX0_spread_13, eX0_spread_16, eX0_spread_17, eX0_spread_18, eX0_spread_19, eX0_spread_20, eX0_spread_22, eX0_spread_24, eX0_spread_25, eX0_spread_28, eX0_spread_30, eX0_spread_31, eX0_spread_34, eX0_spread_35, eX0_spread_38, eX0_spread_39, eX0_spread_42, eX0_spread_44, eX0_spread_45, eX0_spread_47, eX0_spread_48, eX0_spread_50, eX0_spread_52, eX0_spread_56, eX0_spread_58, eX0_spread_59, eX0_spread_62, eX0_spread_63, eX0_spread_66, eX0_spread_67, eX0_spread_70, eX0_spread_72, eX0_spread_73, eX0_spread_75, eX0_spread_77, eX0_spread_80, eX0_spread_81, eX0_spread_84, eX0_spread_86, eX0_spread_87, eX0_spread_90, eX0_spread_91, eX0_spread_92, eX0_spread_95, eX0_spread_96, eX0_spread_99, eX0_spread_100, eX0_spread_103, eX0_spread_105, eX0_spread_106, eX0_spread_107, eX0_spread_110, eX0_spread_111, eX0_spread_112, eX0_spread_115, eX0_spread_116, eX0_spread_119, eX0_spread_121, eX0_spread_122, eX0_spread_125, eX0_spread_126, eX0_spread_127, eX0_spread_130, eX0_spread_131, eX0_spread_133, eX0_spread_134, eX0_spread_137, eX0_spread_140, eX0_spread_146, eX0_spread_149, eX0_spread_150, eX0_spread_153, eX0_spread_154, eX0_spread_157, eX0_spread_158, eX0_spread_159, eX0_spread_160, eX0_spread_163, eX0_spread_164, eX0_spread_167, eX0_spread_168, eX0_spread_169, eX0_spread_170, eX0_spread_171, eX0_spread_174, eX0_spread_175, eX0_spread_176, eX0_spread_179, Nat.add_zero, Nat.reduceAdd, Nat.reduceLeDiff, Nat.zero_le, and_true, o_alen_e, o_aload_0r, o_aload_1r, o_callV_0, o_const_e, o_dup_e, o_getf_e, o_goto_e, o_iald_e, o_iald_f, o_iast_e, o_icmp_e, o_if_e, o_ii_e, o_iinc_3, o_iinc_4, o_iinc_6, o_iload_2, o_iload_3, o_iload_4, o_iload_5, o_iload_6, o_iload_7, o_ist_3, o_ist_4, o_ist_5, o_ist_6, o_ist_7, o_putf_e, o_vret_e, tl_n, tl_s, true_and, xc1_i, xc1_r, xfit_a, xfit_i, xfit_l, xfit_o, xnlv_i, xnlv_n, xnlv_r, xwt_0, xwt_f, xwt_i, xwt_l, xwt_r, hL.cls, hL.g0, hL.g1, hL.g2, hL.g3, hL.g4, hL.g5, hL.g6, hL.g7, hL.g8, hL.g9, hL.g10, hL.g11]
    refine c_directions hL ok ?_
    simp only [eX0_spread_0, eX0_spread_1, eX0_spread_4, eX0_spread_5, eX0_spread_6, eX0_spread_7, eX0_spread_8, eX0_spread_11, eX0_spread_12, eX0_spread_13, eX0_spread_16, eX0_spread_17, eX0_spread_18, eX0_spread_19, eX0_spread_20, eX0_spread_22, eX0_spread_24, eX0_spread_25, eX0_spread_28, eX0_spread_30, eX0_spread_31, eX0_spread_34, eX0_spread_35, eX0_spread_38, eX0_spread_39, eX0_spread_42, eX0_spread_44, eX0_spread_45, eX0_spread_47, eX0_spread_48, eX0_spread_50, eX0_spread_52, eX0_spread_56, eX0_spread_58, eX0_spread_59, eX0_spread_62, eX0_spread_63, eX0_spread_66, eX0_spread_67, eX0_spread_70, eX0_spread_72, eX0_spread_73, eX0_spread_75, eX0_spread_77, eX0_spread_80, eX0_spread_81, eX0_spread_84, eX0_spread_86, eX0_spread_87, eX0_spread_90, eX0_spread_91, eX0_spread_92, eX0_spread_95, eX0_spread_96, eX0_spread_99, eX0_spread_100, eX0_spread_103, eX0_spread_105, eX0_spread_106, eX0_spread_107, eX0_spread_110, eX0_spread_111, eX0_spread_112, eX0_spread_115, eX0_spread_116, eX0_spread_119, eX0_spread_121, eX0_spread_122, eX0_spread_125, eX0_spread_126, eX0_spread_127, eX0_spread_130, eX0_spread_131, eX0_spread_133, eX0_spread_134, eX0_spread_137, eX0_spread_140, eX0_spread_146, eX0_spread_149, eX0_spread_150, eX0_spread_153, eX0_spread_154, eX0_spread_157, eX0_spread_158, eX0_spread_159, eX0_spread_160, eX0_spread_163, eX0_spread_164, eX0_spread_167, eX0_spread_168, eX0_spread_169, eX0_spread_170, eX0_spread_171, eX0_spread_174, eX0_spread_175, eX0_spread_176, eX0_spread_179, Nat.add_zero, Nat.reduceAdd, Nat.reduceLeDiff, Nat.zero_le, and_true, o_alen_e, o_aload_0r, o_aload_1r, o_callV_0, o_const_e, o_dup_e, o_getf_e, o_goto_e, o_iald_e, o_iald_f, o_iast_e, o_icmp_e, o_if_e, o_ii_e, o_iinc_3, o_iinc_4, o_iinc_6, o_iload_2, o_iload_3, o_iload_4, o_iload_5, o_iload_6, o_iload_7, o_ist_3, o_ist_4, o_ist_5, o_ist_6, o_ist_7, o_putf_e, o_vret_e, tl_n, tl_s, true_and, xc1_i, xc1_r, xfit_a, xfit_i, xfit_l, xfit_o, xnlv_i, xnlv_n, xnlv_r, xwt_0, xwt_f, xwt_i, xwt_l, xwt_r, nI_add, le_nI (a := c*8+x.nd) (b := c*8+d) (by omega) (by omega)]
    refine ⟨fun _ => ?_, fun g => by omega⟩
    have e : d = x.nd := by omega
    subst e
    exact k go qu w hR
  | succ n ih =>
    intro d hd go qu w hR
    have hL := hg.lat hl sep ((s.wgo go).wqu qu)
    have hA := hg.put ((s.wgo go).wqu qu)
    have okd := spI_ok ok (f := f) (t := t) (c := c) ha d
    have hGd : ∀ o j, (spI x f t c a d).1 o = some j → j ≤ t := fun o j hj => by
      rcases spI_G (x := x) (f := f) (t := t) (c := c) (i := o) (a := a) d with e | e
      · rw [e] at hj; exact hG o j hj
      · rw [e] at hj; cases hj; exact Nat.le_refl t
    have hle := okd.le
    rw [eX0_spread_54]
    simp only [eX0_spread_0, eX0_spread_1, eX0_spread_4, eX0_spread_5, eX0_spread_6, eX0_spread_7, eX0_spread_8, eX0_spread_11, eX0_spread_12, eX0_spread_13, eX0_spread_16, eX0_spread_17, eX0_spread_18, eX0_spread_19, eX0_spread_20, eX0_spread_22, eX0_spread_24, eX0_spread_25, eX0_spread_28, eX0_spread_30, eX0_spread_31, eX0_spread_34, eX0_spread_35, eX0_spread_38, eX0_spread_39, eX0_spread_42, eX0_spread_44, eX0_spread_45, eX0_spread_47, eX0_spread_48, eX0_spread_50, eX0_spread_52, eX0_spread_56, eX0_spread_58, eX0_spread_59, eX0_spread_62, eX0_spread_63, eX0_spread_66, eX0_spread_67, eX0_spread_70, eX0_spread_72, eX0_spread_73, eX0_spread_75, eX0_spread_77, eX0_spread_80, eX0_spread_81, eX0_spread_84, eX0_spread_86, eX0_spread_87, eX0_spread_90, eX0_spread_91, eX0_spread_92, eX0_spread_95, eX0_spread_96, eX0_spread_99, eX0_spread_100, eX0_spread_103, eX0_spread_105, eX0_spread_106, eX0_spread_107, eX0_spread_110, eX0_spread_111, eX0_spread_112, eX0_spread_115, eX0_spread_116, eX0_spread_119, eX0_spread_121, eX0_spread_122, eX0_spread_125, eX0_spread_126, eX0_spread_127, eX0_spread_130, eX0_spread_131, eX0_spread_133, eX0_spread_134, eX0_spread_137, eX0_spread_140, eX0_spread_146, eX0_spread_149, eX0_spread_150, eX0_spread_153, eX0_spread_154, eX0_spread_157, eX0_spread_158, eX0_spread_159, eX0_spread_160, eX0_spread_163, eX0_spread_164, eX0_spread_167, eX0_spread_168, eX0_spread_169, eX0_spread_170, eX0_spread_171, eX0_spread_174, eX0_spread_175, eX0_spread_176, eX0_spread_179, Nat.add_zero, Nat.reduceAdd, Nat.reduceLeDiff, Nat.zero_le, and_true, o_alen_e, o_aload_0r, o_aload_1r, o_callV_0, o_const_e, o_dup_e, o_getf_e, o_goto_e, o_iald_e, o_iald_f, o_iast_e, o_icmp_e, o_if_e, o_ii_e, o_iinc_3, o_iinc_4, o_iinc_6, o_iload_2, o_iload_3, o_iload_4, o_iload_5, o_iload_6, o_iload_7, o_ist_3, o_ist_4, o_ist_5, o_ist_6, o_ist_7, o_putf_e, o_vret_e, tl_n, tl_s, true_and, xc1_i, xc1_r, xfit_a, xfit_i, xfit_l, xfit_o, xnlv_i, xnlv_n, xnlv_r, xwt_0, xwt_f, xwt_i, xwt_l, xwt_r, hL.cls, hL.g0, hL.g1, hL.g2, hL.g3, hL.g4, hL.g5, hL.g6, hL.g7, hL.g8, hL.g9, hL.g10, hL.g11]
    refine c_directions hL ok ?_
    simp only [eX0_spread_0, eX0_spread_1, eX0_spread_4, eX0_spread_5, eX0_spread_6, eX0_spread_7, eX0_spread_8, eX0_spread_11, eX0_spread_12, eX0_spread_13, eX0_spread_16, eX0_spread_17, eX0_spread_18, eX0_spread_19, eX0_spread_20, eX0_spread_22, eX0_spread_24, eX0_spread_25, eX0_spread_28, eX0_spread_30, eX0_spread_31, eX0_spread_34, eX0_spread_35, eX0_spread_38, eX0_spread_39, eX0_spread_42, eX0_spread_44, eX0_spread_45, eX0_spread_47, eX0_spread_48, eX0_spread_50, eX0_spread_52, eX0_spread_56, eX0_spread_58, eX0_spread_59, eX0_spread_62, eX0_spread_63, eX0_spread_66, eX0_spread_67, eX0_spread_70, eX0_spread_72, eX0_spread_73, eX0_spread_75, eX0_spread_77, eX0_spread_80, eX0_spread_81, eX0_spread_84, eX0_spread_86, eX0_spread_87, eX0_spread_90, eX0_spread_91, eX0_spread_92, eX0_spread_95, eX0_spread_96, eX0_spread_99, eX0_spread_100, eX0_spread_103, eX0_spread_105, eX0_spread_106, eX0_spread_107, eX0_spread_110, eX0_spread_111, eX0_spread_112, eX0_spread_115, eX0_spread_116, eX0_spread_119, eX0_spread_121, eX0_spread_122, eX0_spread_125, eX0_spread_126, eX0_spread_127, eX0_spread_130, eX0_spread_131, eX0_spread_133, eX0_spread_134, eX0_spread_137, eX0_spread_140, eX0_spread_146, eX0_spread_149, eX0_spread_150, eX0_spread_153, eX0_spread_154, eX0_spread_157, eX0_spread_158, eX0_spread_159, eX0_spread_160, eX0_spread_163, eX0_spread_164, eX0_spread_167, eX0_spread_168, eX0_spread_169, eX0_spread_170, eX0_spread_171, eX0_spread_174, eX0_spread_175, eX0_spread_176, eX0_spread_179, Nat.add_zero, Nat.reduceAdd, Nat.reduceLeDiff, Nat.zero_le, and_true, o_alen_e, o_aload_0r, o_aload_1r, o_callV_0, o_const_e, o_dup_e, o_getf_e, o_goto_e, o_iald_e, o_iald_f, o_iast_e, o_icmp_e, o_if_e, o_ii_e, o_iinc_3, o_iinc_4, o_iinc_6, o_iload_2, o_iload_3, o_iload_4, o_iload_5, o_iload_6, o_iload_7, o_ist_3, o_ist_4, o_ist_5, o_ist_6, o_ist_7, o_putf_e, o_vret_e, tl_n, tl_s, true_and, xc1_i, xc1_r, xfit_a, xfit_i, xfit_l, xfit_o, xnlv_i, xnlv_n, xnlv_r, xwt_0, xwt_f, xwt_i, xwt_l, xwt_r, hL.cls, hL.g0, hL.g1, hL.g2, hL.g3, hL.g4, hL.g5, hL.g6, hL.g7, hL.g8, hL.g9, hL.g10, hL.g11, nI_add, le_nI (a := c*8+x.nd) (b := c*8+d) (by omega) (by omega), hL.rl (c := c*8+d) (by omega)]
    refine ⟨fun g => by omega, fun _ => ?_⟩
    rw [hk c d hc (by omega)]
    have ih := ih (d + 1) (by omega)
    rw [show spI x f t c a (d + 1) = spD x f t c d (spI x f t c a d) from rfl] at ih
    generalize hq : spI x f t c a d = q at *
    unfold spD at ih
    cases hb : x.nb c d with
    | none =>
      simp only [hb] at ih
      refine ⟨fun _ => ?_, fun g => absurd (by decide) g⟩
      rw [n1, nI_add]
      exact ih go qu _ hR
    | some o =>
      have ho := sLat.nb_36 ok hb
      have hmo := ok.1 o
      have hmf := ok.1 f
      simp only [hb] at ih
      have e1 : ((s.wgo go).wqu qu).go o = lkV (q.1 o) := hR.1 o ho
      have e2 : ((s.wgo go).wqu qu).tt = nI t := hst
      simp only [eX0_spread_0, eX0_spread_1, eX0_spread_4, eX0_spread_5, eX0_spread_6, eX0_spread_7, eX0_spread_8, eX0_spread_11, eX0_spread_12, eX0_spread_13, eX0_spread_16, eX0_spread_17, eX0_spread_18, eX0_spread_19, eX0_spread_20, eX0_spread_22, eX0_spread_24, eX0_spread_25, eX0_spread_28, eX0_spread_30, eX0_spread_31, eX0_spread_34, eX0_spread_35, eX0_spread_38, eX0_spread_39, eX0_spread_42, eX0_spread_44, eX0_spread_45, eX0_spread_47, eX0_spread_48, eX0_spread_50, eX0_spread_52, eX0_spread_56, eX0_spread_58, eX0_spread_59, eX0_spread_62, eX0_spread_63, eX0_spread_66, eX0_spread_67, eX0_spread_70, eX0_spread_72, eX0_spread_73, eX0_spread_75, eX0_spread_77, eX0_spread_80, eX0_spread_81, eX0_spread_84, eX0_spread_86, eX0_spread_87, eX0_spread_90, eX0_spread_91, eX0_spread_92, eX0_spread_95, eX0_spread_96, eX0_spread_99, eX0_spread_100, eX0_spread_103, eX0_spread_105, eX0_spread_106, eX0_spread_107, eX0_spread_110, eX0_spread_111, eX0_spread_112, eX0_spread_115, eX0_spread_116, eX0_spread_119, eX0_spread_121, eX0_spread_122, eX0_spread_125, eX0_spread_126, eX0_spread_127, eX0_spread_130, eX0_spread_131, eX0_spread_133, eX0_spread_134, eX0_spread_137, eX0_spread_140, eX0_spread_146, eX0_spread_149, eX0_spread_150, eX0_spread_153, eX0_spread_154, eX0_spread_157, eX0_spread_158, eX0_spread_159, eX0_spread_160, eX0_spread_163, eX0_spread_164, eX0_spread_167, eX0_spread_168, eX0_spread_169, eX0_spread_170, eX0_spread_171, eX0_spread_174, eX0_spread_175, eX0_spread_176, eX0_spread_179, Nat.add_zero, Nat.reduceAdd, Nat.reduceLeDiff, Nat.zero_le, and_true, o_alen_e, o_aload_0r, o_aload_1r, o_callV_0, o_const_e, o_dup_e, o_getf_e, o_goto_e, o_iald_e, o_iald_f, o_iast_e, o_icmp_e, o_if_e, o_ii_e, o_iinc_3, o_iinc_4, o_iinc_6, o_iload_2, o_iload_3, o_iload_4, o_iload_5, o_iload_6, o_iload_7, o_ist_3, o_ist_4, o_ist_5, o_ist_6, o_ist_7, o_putf_e, o_vret_e, tl_n, tl_s, true_and, xc1_i, xc1_r, xfit_a, xfit_i, xfit_l, xfit_o, xnlv_i, xnlv_n, xnlv_r, xwt_0, xwt_f, xwt_i, xwt_l, xwt_r, lkV, lt0_nI (a := o) (by omega), not_true_eq_false, not_false_eq_true, true_implies, false_implies, and_true, true_and, implies_true, forall_const, ↓reduceIte, Bool.false_eq_true, i10, i10n, hA.cls, hA.g0, hA.g1, hA.g2, hA.g3, hA.g4, hA.g5, hA.r_go ho, hA.l_qu, hL.cls, hL.g0, hL.g1, hL.g2, hL.g3, hL.g4, hL.g5, hL.g6, hL.g7, hL.g8, hL.g9, hL.g10, hL.g11]
      rw [e1, lkV_neg _ (fun j hj => by have := hGd o j hj; omega)]
      by_cases g1 : q.1 o = none
      · have hlt := okd.lt g1 ho
        simp only [eX0_spread_0, eX0_spread_1, eX0_spread_4, eX0_spread_5, eX0_spread_6, eX0_spread_7, eX0_spread_8, eX0_spread_11, eX0_spread_12, eX0_spread_13, eX0_spread_16, eX0_spread_17, eX0_spread_18, eX0_spread_19, eX0_spread_20, eX0_spread_22, eX0_spread_24, eX0_spread_25, eX0_spread_28, eX0_spread_30, eX0_spread_31, eX0_spread_34, eX0_spread_35, eX0_spread_38, eX0_spread_39, eX0_spread_42, eX0_spread_44, eX0_spread_45, eX0_spread_47, eX0_spread_48, eX0_spread_50, eX0_spread_52, eX0_spread_56, eX0_spread_58, eX0_spread_59, eX0_spread_62, eX0_spread_63, eX0_spread_66, eX0_spread_67, eX0_spread_70, eX0_spread_72, eX0_spread_73, eX0_spread_75, eX0_spread_77, eX0_spread_80, eX0_spread_81, eX0_spread_84, eX0_spread_86, eX0_spread_87, eX0_spread_90, eX0_spread_91, eX0_spread_92, eX0_spread_95, eX0_spread_96, eX0_spread_99, eX0_spread_100, eX0_spread_103, eX0_spread_105, eX0_spread_106, eX0_spread_107, eX0_spread_110, eX0_spread_111, eX0_spread_112, eX0_spread_115, eX0_spread_116, eX0_spread_119, eX0_spread_121, eX0_spread_122, eX0_spread_125, eX0_spread_126, eX0_spread_127, eX0_spread_130, eX0_spread_131, eX0_spread_133, eX0_spread_134, eX0_spread_137, eX0_spread_140, eX0_spread_146, eX0_spread_149, eX0_spread_150, eX0_spread_153, eX0_spread_154, eX0_spread_157, eX0_spread_158, eX0_spread_159, eX0_spread_160, eX0_spread_163, eX0_spread_164, eX0_spread_167, eX0_spread_168, eX0_spread_169, eX0_spread_170, eX0_spread_171, eX0_spread_174, eX0_spread_175, eX0_spread_176, eX0_spread_179, Nat.add_zero, Nat.reduceAdd, Nat.reduceLeDiff, Nat.zero_le, and_true, o_alen_e, o_aload_0r, o_aload_1r, o_callV_0, o_const_e, o_dup_e, o_getf_e, o_goto_e, o_iald_e, o_iald_f, o_iast_e, o_icmp_e, o_if_e, o_ii_e, o_iinc_3, o_iinc_4, o_iinc_6, o_iload_2, o_iload_3, o_iload_4, o_iload_5, o_iload_6, o_iload_7, o_ist_3, o_ist_4, o_ist_5, o_ist_6, o_ist_7, o_putf_e, o_vret_e, tl_n, tl_s, true_and, xc1_i, xc1_r, xfit_a, xfit_i, xfit_l, xfit_o, xnlv_i, xnlv_n, xnlv_r, xwt_0, xwt_f, xwt_i, xwt_l, xwt_r, le_nI (a := 36) (b := q.2.2) (by omega) (by omega), hL.rm ho, hL.rm (c := f) (by omega), eq_nI (a := x.mk o) (b := x.mk f) (by omega) (by omega), hA.cls, hA.g0, hA.g1, hA.g2, hA.g3, hA.g4, hA.g5, hL.cls, hL.g0, hL.g1, hL.g2, hL.g3, hL.g4, hL.g5, hL.g6, hL.g7, hL.g8, hL.g9, hL.g10, hL.g11, e2, hA.w_go ho]
        refine ⟨fun g => absurd g1 g, fun _ => ⟨fun g => by omega, fun _ => ⟨fun g2 => ?_, fun g2 => ?_⟩⟩⟩
        · rw [if_neg (fun z => g2 z.2)] at ih
          rw [n1, nI_add]
          exact ih go qu _ hR
        · have g2 := Classical.not_not.mp g2
          rw [if_pos ⟨g1, g2⟩] at ih
          rw [graP_graP hg.lt]
          have hB := hg.put (((s.wgo go).wqu qu).wgo (upd ((s.wgo go).wqu qu).go o (nI t)))
          simp only [eX0_spread_0, eX0_spread_1, eX0_spread_4, eX0_spread_5, eX0_spread_6, eX0_spread_7, eX0_spread_8, eX0_spread_11, eX0_spread_12, eX0_spread_13, eX0_spread_16, eX0_spread_17, eX0_spread_18, eX0_spread_19, eX0_spread_20, eX0_spread_22, eX0_spread_24, eX0_spread_25, eX0_spread_28, eX0_spread_30, eX0_spread_31, eX0_spread_34, eX0_spread_35, eX0_spread_38, eX0_spread_39, eX0_spread_42, eX0_spread_44, eX0_spread_45, eX0_spread_47, eX0_spread_48, eX0_spread_50, eX0_spread_52, eX0_spread_56, eX0_spread_58, eX0_spread_59, eX0_spread_62, eX0_spread_63, eX0_spread_66, eX0_spread_67, eX0_spread_70, eX0_spread_72, eX0_spread_73, eX0_spread_75, eX0_spread_77, eX0_spread_80, eX0_spread_81, eX0_spread_84, eX0_spread_86, eX0_spread_87, eX0_spread_90, eX0_spread_91, eX0_spread_92, eX0_spread_95, eX0_spread_96, eX0_spread_99, eX0_spread_100, eX0_spread_103, eX0_spread_105, eX0_spread_106, eX0_spread_107, eX0_spread_110, eX0_spread_111, eX0_spread_112, eX0_spread_115, eX0_spread_116, eX0_spread_119, eX0_spread_121, eX0_spread_122, eX0_spread_125, eX0_spread_126, eX0_spread_127, eX0_spread_130, eX0_spread_131, eX0_spread_133, eX0_spread_134, eX0_spread_137, eX0_spread_140, eX0_spread_146, eX0_spread_149, eX0_spread_150, eX0_spread_153, eX0_spread_154, eX0_spread_157, eX0_spread_158, eX0_spread_159, eX0_spread_160, eX0_spread_163, eX0_spread_164, eX0_spread_167, eX0_spread_168, eX0_spread_169, eX0_spread_170, eX0_spread_171, eX0_spread_174, eX0_spread_175, eX0_spread_176, eX0_spread_179, Nat.add_zero, Nat.reduceAdd, Nat.reduceLeDiff, Nat.zero_le, and_true, o_alen_e, o_aload_0r, o_aload_1r, o_callV_0, o_const_e, o_dup_e, o_getf_e, o_goto_e, o_iald_e, o_iald_f, o_iast_e, o_icmp_e, o_if_e, o_ii_e, o_iinc_3, o_iinc_4, o_iinc_6, o_iload_2, o_iload_3, o_iload_4, o_iload_5, o_iload_6, o_iload_7, o_ist_3, o_ist_4, o_ist_5, o_ist_6, o_ist_7, o_putf_e, o_vret_e, tl_n, tl_s, true_and, xc1_i, xc1_r, xfit_a, xfit_i, xfit_l, xfit_o, xnlv_i, xnlv_n, xnlv_r, xwt_0, xwt_f, xwt_i, xwt_l, xwt_r, hB.cls, hB.g0, hB.g1, hB.g2, hB.g3, hB.g4, hB.g5, hB.w_qu hlt, n1, nI_add]
          rw [graP_graP hg.lt]
          exact ih _ _ _ (hR.push rfl)
      · rw [if_neg (fun z => g1 z.1)] at ih
        refine ⟨fun _ => ?_, fun z => absurd g1 z⟩
        rw [n1, nI_add]
        exact ih go qu _ hR
end SPR
