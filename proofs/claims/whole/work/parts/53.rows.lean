/-! what was seen, events, the book -/
abbrev sPr : Type := (Nat → Nat × Nat) × Nat
def sRw : Type := sPr × sPr × sPr
def sRw.S (p : sRw) : sPr := p.1
def sRw.E (p : sRw) : sPr := p.2.1
def sRw.K (p : sRw) : sPr := p.2.2
def prOk (p : sPr) (cap a b : Nat) : Prop := p.2 ≤ cap ∧ ∀ i, i < p.2 → (p.1 i).1 ≤ a ∧ (p.1 i).2 ≤ b
def sRw.ok (p : sRw) : Prop := prOk p.S 6 35 7 ∧ prOk p.E 8 4 99 ∧ prOk p.K 8 35 7
def RwM (p : sRw) (r : sRow) : Prop := r.nS = p.S.2 ∧ r.nE = p.E.2 ∧ r.nB = p.K.2 ∧ (∀ i, i < p.S.2 → r.sn i = nI (8 * (p.S.1 i).1 + (p.S.1 i).2)) ∧ (∀ i, i < p.E.2 → r.ev (2 * i) = nI (p.E.1 i).1 ∧ r.ev (2 * i + 1) = nI (p.E.1 i).2) ∧ (∀ i, i < p.K.2 → r.bk i = nI (8 * (p.K.1 i).1 + (p.K.1 i).2))
def pu (p : sPr) (cap : Nat) (q : Nat × Nat) : Int32 × sPr := if p.2 = cap then (-4, p) else (nI (p.2 + 1), (va_up p.1 p.2 q, p.2 + 1))
theorem pu_ok {p : sPr} {cap a b : Nat} (h : prOk p cap a b) {q : Nat × Nat} (h1 : q.1 ≤ a) (h2 : q.2 ≤ b) : prOk (pu p cap q).2 cap a b := by
  unfold pu
  split
  · exact h
  · rename_i e
    have := h.1
    refine ⟨by show p.2 + 1 ≤ cap; omega, fun i hi => ?_⟩
    have hi : i < p.2 + 1 := hi
    show (va_up p.1 p.2 q i).1 ≤ a ∧ (va_up p.1 p.2 q i).2 ≤ b
    unfold va_up
    split
    · exact ⟨h1, h2⟩
    · exact h.2 i (by omega)
/-- a cell and a mark told by hand -/
def sLat.cm (x : sLat) (p : sPr) (cap : Nat) (c v : Int32) : Int32 × sPr := if c = -1 then (0, (p.1, 0)) else match ix x.n c with
  | none => (-1, p)
  | some c => match ix 8 v with
    | none => (-2, p)
    | some v => pu p cap (c, v)
theorem cm_ok {x : sLat} (ok : x.ok) {p : sPr} {cap : Nat} (h : prOk p cap 35 7) {c v : Int32} : prOk (x.cm p cap c v).2 cap 35 7 := by
  have hn := sLat.n36 ok
  unfold sLat.cm
  split
  · exact ⟨Nat.zero_le _, fun i hi => absurd hi (Nat.not_lt_zero i)⟩
  · split
    · exact h
    · rename_i c' hc
      have h1 := (ix_s (by omega) hc).1
      split
      · exact h
      · rename_i v' hv
        have h2 := (ix_s (by decide) hv).1
        exact pu_ok h (by dsimp only; omega) (by dsimp only; omega)
def evM (w : Nat) : Nat := if w = 0 then 60 else if w = 1 then 9 else 99
def sLat.evA (x : sLat) (p : sPr) (w n : Int32) : Int32 × sPr := if w = -1 then (0, (p.1, 0)) else match ix 5 w with
  | none => (-1, p)
  | some w => if w = 2 then (match ix x.n n with
      | none => (-1, p)
      | some j => pu p 8 (2, j)) else (match ix (evM w + 1) n with
      | none => (-2, p)
      | some j => pu p 8 (w, j))
theorem evM_le (w : Nat) : evM w ≤ 99 := by unfold evM; split <;> (try split) <;> omega
theorem evA_ok {x : sLat} (ok : x.ok) {p : sPr} (h : prOk p 8 4 99) {w n : Int32} : prOk (x.evA p w n).2 8 4 99 := by
  have hn := sLat.n36 ok
  unfold sLat.evA
  split
  · exact ⟨Nat.zero_le _, fun i hi => absurd hi (Nat.not_lt_zero i)⟩
  · split
    · exact h
    · rename_i w' hw
      have h1 := (ix_s (by decide) hw).1
      split
      · split
        · exact h
        · rename_i j hj
          have h2 := (ix_s (by omega) hj).1
          exact pu_ok h (by dsimp only; omega) (by dsimp only; omega)
      · split
        · exact h
        · rename_i j hj
          have h3 := evM_le w'
          have h2 := (ix_s (by omega) hj).1
          exact pu_ok h (by dsimp only; omega) (by dsimp only; omega)
/-- the first that is unlike -/
def unF (f : Nat → Nat × Nat) (y : sLat) : Nat → Option Nat
  | 0 => none
  | i + 1 => match unF f y i with
    | some z => some z
    | none => if (f i).1 < y.n ∧ y.mk (f i).1 = (f i).2 then none else some i
theorem unF_some {f : Nat → Nat × Nat} {y : sLat} {k z : Nat} (h : unF f y k = some z) : ∀ m, unF f y (k + m) = some z
  | 0 => h
  | m + 1 => by
    show (match unF f y (k + m) with | some z => some z | none => _) = _
    rw [unF_some h m]
theorem unF_hit {f : Nat → Nat × Nat} {y : sLat} {i k : Nat} (h : unF f y i = none) (g : ¬ ((f i).1 < y.n ∧ y.mk (f i).1 = (f i).2)) (hk : i < k) : unF f y k = some i := by
  have : unF f y (i + 1) = some i := by
    unfold unF
    rw [h]
    dsimp only
    rw [if_neg g]
  have := unF_some this (k - (i + 1))
  rw [show i + 1 + (k - (i + 1)) = k by omega] at this
  exact this
theorem unF_s {f : Nat → Nat × Nat} {y : sLat} {i : Nat} (h : unF f y i = none) (g : (f i).1 < y.n ∧ y.mk (f i).1 = (f i).2) : unF f y (i + 1) = none := by
  unfold unF
  rw [h]
  dsimp only
  rw [if_pos g]
/-- by which seeds -/
noncomputable def sLat.fiY (x : sLat) (n s : Nat) : sLat := ((x.wse (nI s)).trN n).1
noncomputable def sLat.fiF (x : sLat) (p : sPr) (n : Nat) : Nat → Option Nat
  | 0 => none
  | s + 1 => match x.fiF p n s with
    | some z => some z
    | none => if unF p.1 (x.fiY n s) p.2 = none then some s else none
noncomputable def sLat.fiM (x : sLat) (p : sPr) (n : Nat) : Nat → Nat := sm (fun s => if unF p.1 (x.fiY n s) p.2 = none then 1 else 0)
theorem fiF_M {x : sLat} {p : sPr} {n : Nat} : ∀ s, (x.fiM p n s = 0 ↔ x.fiF p n s = none)
  | 0 => ⟨fun _ => rfl, fun _ => rfl⟩
  | q + 1 => by
    have ih := fiF_M (x := x) (p := p) (n := n) q
    rw [show x.fiM p n (q + 1) = x.fiM p n q + (if unF p.1 (x.fiY n q) p.2 = none then 1 else 0) from rfl]
    unfold sLat.fiF
    cases hf : x.fiF p n q with
    | none =>
      have := ih.mpr hf
      dsimp only
      split
      · simp
      · simp [this]
    | some z =>
      dsimp only
      have : x.fiM p n q ≠ 0 := fun e => by rw [ih.mp e] at hf; cases hf
      constructor
      · intro e; omega
      · intro e; cases e
noncomputable def sLat.aFit (x : sLat) (p : sPr) (n w : Int32) : Int32 := match ix 61 n with
  | none => -2
  | some n => match ix 2 w with
    | none => -1
    | some w => if w = 0 then nI (x.fiM p n 100) else lkV (x.fiF p n 100)
noncomputable def sLat.evN (x : sLat) (f : Nat → Nat × Nat) : Nat → sLat
  | 0 => x
  | i + 1 => (x.evN f i).ev (f i).1 (f i).2
theorem evN_ok {x : sLat} (ok : x.ok) {p : sPr} {cap a : Nat} (h : prOk p cap a 99) : ∀ i, i ≤ p.2 → (x.evN p.1 i).ok
  | 0, _ => ok
  | i + 1, hi => ev_ok (evN_ok ok h i (by omega)) (h.2 i (by omega)).2
noncomputable def sLat.aAft (x : sLat) (p : sPr) (w : Int32) : Int32 := match ix 3 w with
  | none => -1
  | some _ => (x.evN p.1 p.2).aTold w
theorem m1_ix {n : Nat} (hn : n < 2 ^ 31) : ix n (-1) = none := by
  rcases ix_cases hn (-1) with ⟨j, h1, h2, _⟩ | ⟨_, h⟩ | ⟨_, _, h⟩
  · have := nI_pos (show j < 2 ^ 31 by omega)
    rw [← h2] at this
    exact absurd (by decide) this
  · exact h
  · exact h
section ROWS
variable {AH : xH} {m : Nat} {s : sMod} {x : sLat} {r : sRow} {p : sRw}
theorem MoL.rs (h : MoL AH m s x r) {c : Nat} (hc : c < 6) {K : Int32 → Prop} : xald AH (m + 1) (nI (83 + c)) K = K (r.sn c) := by
  rw [h.rd (by omega), nF_sn hc]
theorem MoL.re (h : MoL AH m s x r) {c : Nat} (hc : c < 16) {K : Int32 → Prop} : xald AH (m + 1) (nI (89 + c)) K = K (r.ev c) := by
  rw [h.rd (by omega), nF_ev hc]
theorem MoL.rk (h : MoL AH m s x r) {c : Nat} (hc : c < 8) {K : Int32 → Prop} : xald AH (m + 1) (nI (105 + c)) K = K (r.bk c) := by
  rw [h.rd (by omega), nF_bk hc]
theorem MoL.ws (h : MoL AH m s x r) {c : Nat} {v : Int32} (hc : c < 6) {K : xH → Prop} : xast AH (m + 1) (nI (83 + c)) v K = K (modP AH m (s.wnw (nF x (r.wsn c v)))) := by
  rw [h.wr (by omega), nF_us hc]
theorem MoL.we (h : MoL AH m s x r) {c : Nat} {v : Int32} (hc : c < 16) {K : xH → Prop} : xast AH (m + 1) (nI (89 + c)) v K = K (modP AH m (s.wnw (nF x (r.wev c v)))) := by
  rw [h.wr (by omega), nF_ue hc]
theorem MoL.wk (h : MoL AH m s x r) {c : Nat} {v : Int32} (hc : c < 8) {K : xH → Prop} : xast AH (m + 1) (nI (105 + c)) v K = K (modP AH m (s.wnw (nF x (r.wbk c v)))) := by
  rw [h.wr (by omega), nF_ub hc]
theorem d_see (h : MoL AH m s x r) (ok : x.ok) (hR : RwM p r) (hp : p.ok) {c v : Int32} {Q : Option Value → xH → Prop} (k : ∀ r', RwM ((x.cm p.S 6 c v).2, p.2) r' → Q (some (.int (x.cm p.S 6 c v).1)) (modP AH m (s.wnw (nF x r')))) : XC MX7_see [.ref m, .int c, .int v] AH Q := by
  have hn := sLat.n36 ok
  have hS := hp.1
  have hl := hS.1
  obtain ⟨R1, R2, R3, R4, R5, R6⟩ := hR
  unfold sLat.cm at k
  refine XC.ofR (L := [some (.ref m), some (.int c), some (.int v)]) KX7_see (by decide +kernel) (by first | decide | exact Nat.le_of_ble_eq_true rfl) rfl ?_
  by_cases h1 : c = -1
  · subst h1
    rw [if_pos rfl] at k
    simp only [eX7_see_0, eX7_see_1, eX7_see_2, eX7_see_5, eX7_see_6, eX7_see_9, eX7_see_11, eX7_see_12, eX7_see_13, eX7_see_14, eX7_see_15, eX7_see_16, eX7_see_17, eX7_see_20, eX7_see_23, eX7_see_24, eX7_see_25, eX7_see_26, eX7_see_29, eX7_see_32, eX7_see_34, eX7_see_35, eX7_see_36, eX7_see_39, eX7_see_41, eX7_see_42, eX7_see_44, eX7_see_47, eX7_see_49, eX7_see_50, eX7_see_51, eX7_see_54, eX7_see_56, eX7_see_57, eX7_see_60, eX7_see_62, eX7_see_63, eX7_see_64, eX7_see_66, eX7_see_67, eX7_see_68, eX7_see_69, eX7_see_70, eX7_see_71, eX7_see_72, eX7_see_75, eX7_see_77, eX7_see_78, eX7_see_79, eX7_see_80, eX7_see_81, eX7_see_82, eX7_see_83, eX7_see_86, eX7_see_88, eX7_see_89, Nat.add_zero, Nat.reduceAdd, Nat.reduceLeDiff, Nat.zero_le, and_true, o_aload_0r, o_callS_1, o_callV_1, o_const_e, o_dup2_e, o_getf_e, o_iald_e, o_iald_f, o_iast_e, o_icmp_e, o_if_e, o_ii_e, o_iload_1, o_iload_2, o_iret_e, tl_n, tl_s, true_and, xc1_i, xc1_r, xwt_0, xwt_f, xwt_i, xwt_l, xwt_r, eq_self, not_true_eq_false, not_false_eq_true, true_implies, false_implies, and_true, true_and, implies_true, forall_const, ↓reduceIte, Bool.false_eq_true, i10, i10n, h.1.cls, h.1.g0, h.1.g1, h.1.g2, h.1.g3, h.1.g4, h.1.g5, h.1.g6, h.1.g7, h.1.g8, h.1.g9, h.1.g10, h.1.g11, h.1.g12, h.1.g13, h.1.g14, h.1.g15, h.1.g16, h.1.g17, h.1.g18, h.1.g19, h.i0, h.i1, h.i2, h.i3, h.i4, h.i5, h.i6, h.i7, h.i8, h.i9, h.i10, h.j0, h.j1, h.j2, h.j3, h.j4, h.j5, h.j6, h.j7, h.j8, h.j9, h.j10, n8, z_nI, h.wr (c := 8) (by decide), nF_u8]
    exact k _ ⟨rfl, R2, R3, fun i hi => absurd hi (Nat.not_lt_zero i), R5, R6⟩
  · rw [if_neg h1] at k
    simp only [eX7_see_0, eX7_see_1, eX7_see_2, eX7_see_5, eX7_see_6, eX7_see_9, eX7_see_11, eX7_see_12, eX7_see_13, eX7_see_14, eX7_see_15, eX7_see_16, eX7_see_17, eX7_see_20, eX7_see_23, eX7_see_24, eX7_see_25, eX7_see_26, eX7_see_29, eX7_see_32, eX7_see_34, eX7_see_35, eX7_see_36, eX7_see_39, eX7_see_41, eX7_see_42, eX7_see_44, eX7_see_47, eX7_see_49, eX7_see_50, eX7_see_51, eX7_see_54, eX7_see_56, eX7_see_57, eX7_see_60, eX7_see_62, eX7_see_63, eX7_see_64, eX7_see_66, eX7_see_67, eX7_see_68, eX7_see_69, eX7_see_70, eX7_see_71, eX7_see_72, eX7_see_75, eX7_see_77, eX7_see_78, eX7_see_79, eX7_see_80, eX7_see_81, eX7_see_82, eX7_see_83, eX7_see_86, eX7_see_88, eX7_see_89, Nat.add_zero, Nat.reduceAdd, Nat.reduceLeDiff, Nat.zero_le, and_true, o_aload_0r, o_callS_1, o_callV_1, o_const_e, o_dup2_e, o_getf_e, o_iald_e, o_iald_f, o_iast_e, o_icmp_e, o_if_e, o_ii_e, o_iload_1, o_iload_2, o_iret_e, tl_n, tl_s, true_and, xc1_i, xc1_r, xwt_0, xwt_f, xwt_i, xwt_l, xwt_r, h1, not_true_eq_false, not_false_eq_true, true_implies, false_implies, and_true, true_and, implies_true, forall_const, ↓reduceIte, Bool.false_eq_true, i10, i10n, h.1.cls, h.1.g0, h.1.g1, h.1.g2, h.1.g3, h.1.g4, h.1.g5, h.1.g6, h.1.g7, h.1.g8, h.1.g9, h.1.g10, h.1.g11, h.1.g12, h.1.g13, h.1.g14, h.1.g15, h.1.g16, h.1.g17, h.1.g18, h.1.g19, h.i0, h.i1, h.i2, h.i3, h.i4, h.i5, h.i6, h.i7, h.i8, h.i9, h.i10, h.j0, h.j1, h.j2, h.j3, h.j4, h.j5, h.j6, h.j7, h.j8, h.j9, h.j10]
    refine d_isCell h ok ?_
    cases hc : ix x.n c with
    | none =>
      simp only [hc] at k
      have k := k r ⟨R1, R2, R3, R4, R5, R6⟩
      rw [h.self] at k
      simp only [eX7_see_0, eX7_see_1, eX7_see_2, eX7_see_5, eX7_see_6, eX7_see_9, eX7_see_11, eX7_see_12, eX7_see_13, eX7_see_14, eX7_see_15, eX7_see_16, eX7_see_17, eX7_see_20, eX7_see_23, eX7_see_24, eX7_see_25, eX7_see_26, eX7_see_29, eX7_see_32, eX7_see_34, eX7_see_35, eX7_see_36, eX7_see_39, eX7_see_41, eX7_see_42, eX7_see_44, eX7_see_47, eX7_see_49, eX7_see_50, eX7_see_51, eX7_see_54, eX7_see_56, eX7_see_57, eX7_see_60, eX7_see_62, eX7_see_63, eX7_see_64, eX7_see_66, eX7_see_67, eX7_see_68, eX7_see_69, eX7_see_70, eX7_see_71, eX7_see_72, eX7_see_75, eX7_see_77, eX7_see_78, eX7_see_79, eX7_see_80, eX7_see_81, eX7_see_82, eX7_see_83, eX7_see_86, eX7_see_88, eX7_see_89, Nat.add_zero, Nat.reduceAdd, Nat.reduceLeDiff, Nat.zero_le, and_true, o_aload_0r, o_callS_1, o_callV_1, o_const_e, o_dup2_e, o_getf_e, o_iald_e, o_iald_f, o_iast_e, o_icmp_e, o_if_e, o_ii_e, o_iload_1, o_iload_2, o_iret_e, tl_n, tl_s, true_and, xc1_i, xc1_r, xwt_0, xwt_f, xwt_i, xwt_l, xwt_r, Option.isSome, not_true_eq_false, not_false_eq_true, true_implies, false_implies, and_true, true_and, implies_true, forall_const, ↓reduceIte, Bool.false_eq_true, i10, i10n]
      exact k
    | some j =>
      obtain ⟨hj, rfl⟩ := ix_s (by omega) hc
      simp only [eX7_see_0, eX7_see_1, eX7_see_2, eX7_see_5, eX7_see_6, eX7_see_9, eX7_see_11, eX7_see_12, eX7_see_13, eX7_see_14, eX7_see_15, eX7_see_16, eX7_see_17, eX7_see_20, eX7_see_23, eX7_see_24, eX7_see_25, eX7_see_26, eX7_see_29, eX7_see_32, eX7_see_34, eX7_see_35, eX7_see_36, eX7_see_39, eX7_see_41, eX7_see_42, eX7_see_44, eX7_see_47, eX7_see_49, eX7_see_50, eX7_see_51, eX7_see_54, eX7_see_56, eX7_see_57, eX7_see_60, eX7_see_62, eX7_see_63, eX7_see_64, eX7_see_66, eX7_see_67, eX7_see_68, eX7_see_69, eX7_see_70, eX7_see_71, eX7_see_72, eX7_see_75, eX7_see_77, eX7_see_78, eX7_see_79, eX7_see_80, eX7_see_81, eX7_see_82, eX7_see_83, eX7_see_86, eX7_see_88, eX7_see_89, Nat.add_zero, Nat.reduceAdd, Nat.reduceLeDiff, Nat.zero_le, and_true, o_aload_0r, o_callS_1, o_callV_1, o_const_e, o_dup2_e, o_getf_e, o_iald_e, o_iald_f, o_iast_e, o_icmp_e, o_if_e, o_ii_e, o_iload_1, o_iload_2, o_iret_e, tl_n, tl_s, true_and, xc1_i, xc1_r, xwt_0, xwt_f, xwt_i, xwt_l, xwt_r, Option.isSome, not_true_eq_false, not_false_eq_true, true_implies, false_implies, and_true, true_and, implies_true, forall_const, ↓reduceIte, Bool.false_eq_true, i10, i10n]
      refine d_isMark ?_
      cases hv : ix 8 v with
      | none =>
        simp only [hc, hv] at k
        have k := k r ⟨R1, R2, R3, R4, R5, R6⟩
        rw [h.self] at k
        simp only [eX7_see_0, eX7_see_1, eX7_see_2, eX7_see_5, eX7_see_6, eX7_see_9, eX7_see_11, eX7_see_12, eX7_see_13, eX7_see_14, eX7_see_15, eX7_see_16, eX7_see_17, eX7_see_20, eX7_see_23, eX7_see_24, eX7_see_25, eX7_see_26, eX7_see_29, eX7_see_32, eX7_see_34, eX7_see_35, eX7_see_36, eX7_see_39, eX7_see_41, eX7_see_42, eX7_see_44, eX7_see_47, eX7_see_49, eX7_see_50, eX7_see_51, eX7_see_54, eX7_see_56, eX7_see_57, eX7_see_60, eX7_see_62, eX7_see_63, eX7_see_64, eX7_see_66, eX7_see_67, eX7_see_68, eX7_see_69, eX7_see_70, eX7_see_71, eX7_see_72, eX7_see_75, eX7_see_77, eX7_see_78, eX7_see_79, eX7_see_80, eX7_see_81, eX7_see_82, eX7_see_83, eX7_see_86, eX7_see_88, eX7_see_89, Nat.add_zero, Nat.reduceAdd, Nat.reduceLeDiff, Nat.zero_le, and_true, o_aload_0r, o_callS_1, o_callV_1, o_const_e, o_dup2_e, o_getf_e, o_iald_e, o_iald_f, o_iast_e, o_icmp_e, o_if_e, o_ii_e, o_iload_1, o_iload_2, o_iret_e, tl_n, tl_s, true_and, xc1_i, xc1_r, xwt_0, xwt_f, xwt_i, xwt_l, xwt_r, Option.isSome, not_true_eq_false, not_false_eq_true, true_implies, false_implies, and_true, true_and, implies_true, forall_const, ↓reduceIte, Bool.false_eq_true, i10, i10n]
        exact k
      | some i =>
        obtain ⟨hi, rfl⟩ := ix_s (by omega) hv
        simp only [hc, hv] at k
        unfold pu at k
        simp only [eX7_see_0, eX7_see_1, eX7_see_2, eX7_see_5, eX7_see_6, eX7_see_9, eX7_see_11, eX7_see_12, eX7_see_13, eX7_see_14, eX7_see_15, eX7_see_16, eX7_see_17, eX7_see_20, eX7_see_23, eX7_see_24, eX7_see_25, eX7_see_26, eX7_see_29, eX7_see_32, eX7_see_34, eX7_see_35, eX7_see_36, eX7_see_39, eX7_see_41, eX7_see_42, eX7_see_44, eX7_see_47, eX7_see_49, eX7_see_50, eX7_see_51, eX7_see_54, eX7_see_56, eX7_see_57, eX7_see_60, eX7_see_62, eX7_see_63, eX7_see_64, eX7_see_66, eX7_see_67, eX7_see_68, eX7_see_69, eX7_see_70, eX7_see_71, eX7_see_72, eX7_see_75, eX7_see_77, eX7_see_78, eX7_see_79, eX7_see_80, eX7_see_81, eX7_see_82, eX7_see_83, eX7_see_86, eX7_see_88, eX7_see_89, Nat.add_zero, Nat.reduceAdd, Nat.reduceLeDiff, Nat.zero_le, and_true, o_aload_0r, o_callS_1, o_callV_1, o_const_e, o_dup2_e, o_getf_e, o_iald_e, o_iald_f, o_iast_e, o_icmp_e, o_if_e, o_ii_e, o_iload_1, o_iload_2, o_iret_e, tl_n, tl_s, true_and, xc1_i, xc1_r, xwt_0, xwt_f, xwt_i, xwt_l, xwt_r, Option.isSome, not_true_eq_false, not_false_eq_true, true_implies, false_implies, and_true, true_and, implies_true, forall_const, ↓reduceIte, Bool.false_eq_true, i10, i10n, h.1.cls, h.1.g0, h.1.g1, h.1.g2, h.1.g3, h.1.g4, h.1.g5, h.1.g6, h.1.g7, h.1.g8, h.1.g9, h.1.g10, h.1.g11, h.1.g12, h.1.g13, h.1.g14, h.1.g15, h.1.g16, h.1.g17, h.1.g18, h.1.g19, h.i0, h.i1, h.i2, h.i3, h.i4, h.i5, h.i6, h.i7, h.i8, h.i9, h.i10, h.j0, h.j1, h.j2, h.j3, h.j4, h.j5, h.j6, h.j7, h.j8, h.j9, h.j10, n6, n8, h.1.cls, h.1.g0, h.1.g1, h.1.g2, h.1.g3, h.1.g4, h.1.g5, h.1.g6, h.1.g7, h.1.g8, h.1.g9, h.1.g10, h.1.g11, h.1.g12, h.1.g13, h.1.g14, h.1.g15, h.1.g16, h.1.g17, h.1.g18, h.1.g19, h.i0, h.i1, h.i2, h.i3, h.i4, h.i5, h.i6, h.i7, h.i8, h.i9, h.i10, h.j0, h.j1, h.j2, h.j3, h.j4, h.j5, h.j6, h.j7, h.j8, h.j9, h.j10, R1, eq_nI (a := p.S.2) (b := 6) (by omega) (by omega)]
        by_cases h6 : p.S.2 = 6
        · rw [if_pos h6] at k
          have k := k r ⟨R1, R2, R3, R4, R5, R6⟩
          rw [h.self] at k
          exact ⟨fun g => absurd h6 g, fun _ => k⟩
        · rw [if_neg h6] at k
          have hA : MoL (modP AH m (s.wnw (nF x (r.wsn p.S.2 (nI (8 * j + i)))))) m (s.wnw (nF x (r.wsn p.S.2 (nI (8 * j + i))))) x (r.wsn p.S.2 (nI (8 * j + i))) := h.put _ _
          have eS : (r.wsn p.S.2 (nI (8 * j + i))).nS = p.S.2 := R1
          have hB : MoL (modP AH m (s.wnw (nF x ((r.wsn p.S.2 (nI (8 * j + i))).wnS (p.S.2 + 1))))) m (s.wnw (nF x ((r.wsn p.S.2 (nI (8 * j + i))).wnS (p.S.2 + 1)))) x ((r.wsn p.S.2 (nI (8 * j + i))).wnS (p.S.2 + 1)) := h.put _ _
          have eB : ((r.wsn p.S.2 (nI (8 * j + i))).wnS (p.S.2 + 1)).nS = p.S.2 + 1 := rfl
          refine ⟨fun _ => ?_, fun g => absurd (Classical.not_not.mp g) h6⟩
          simp only [eX7_see_0, eX7_see_1, eX7_see_2, eX7_see_5, eX7_see_6, eX7_see_9, eX7_see_11, eX7_see_12, eX7_see_13, eX7_see_14, eX7_see_15, eX7_see_16, eX7_see_17, eX7_see_20, eX7_see_23, eX7_see_24, eX7_see_25, eX7_see_26, eX7_see_29, eX7_see_32, eX7_see_34, eX7_see_35, eX7_see_36, eX7_see_39, eX7_see_41, eX7_see_42, eX7_see_44, eX7_see_47, eX7_see_49, eX7_see_50, eX7_see_51, eX7_see_54, eX7_see_56, eX7_see_57, eX7_see_60, eX7_see_62, eX7_see_63, eX7_see_64, eX7_see_66, eX7_see_67, eX7_see_68, eX7_see_69, eX7_see_70, eX7_see_71, eX7_see_72, eX7_see_75, eX7_see_77, eX7_see_78, eX7_see_79, eX7_see_80, eX7_see_81, eX7_see_82, eX7_see_83, eX7_see_86, eX7_see_88, eX7_see_89, Nat.add_zero, Nat.reduceAdd, Nat.reduceLeDiff, Nat.zero_le, and_true, o_aload_0r, o_callS_1, o_callV_1, o_const_e, o_dup2_e, o_getf_e, o_iald_e, o_iald_f, o_iast_e, o_icmp_e, o_if_e, o_ii_e, o_iload_1, o_iload_2, o_iret_e, tl_n, tl_s, true_and, xc1_i, xc1_r, xwt_0, xwt_f, xwt_i, xwt_l, xwt_r, h.1.cls, h.1.g0, h.1.g1, h.1.g2, h.1.g3, h.1.g4, h.1.g5, h.1.g6, h.1.g7, h.1.g8, h.1.g9, h.1.g10, h.1.g11, h.1.g12, h.1.g13, h.1.g14, h.1.g15, h.1.g16, h.1.g17, h.1.g18, h.1.g19, h.i0, h.i1, h.i2, h.i3, h.i4, h.i5, h.i6, h.i7, h.i8, h.i9, h.i10, h.j0, h.j1, h.j2, h.j3, h.j4, h.j5, h.j6, h.j7, h.j8, h.j9, h.j10, n8, h.1.cls, h.1.g0, h.1.g1, h.1.g2, h.1.g3, h.1.g4, h.1.g5, h.1.g6, h.1.g7, h.1.g8, h.1.g9, h.1.g10, h.1.g11, h.1.g12, h.1.g13, h.1.g14, h.1.g15, h.1.g16, h.1.g17, h.1.g18, h.1.g19, h.i0, h.i1, h.i2, h.i3, h.i4, h.i5, h.i6, h.i7, h.i8, h.i9, h.i10, h.j0, h.j1, h.j2, h.j3, h.j4, h.j5, h.j6, h.j7, h.j8, h.j9, h.j10, R1, n83, nI_add, pk_mul, h.ws (c := p.S.2) (by omega), hA.1.cls, hA.1.g0, hA.1.g1, hA.1.g2, hA.1.g3, hA.1.g4, hA.1.g5, hA.1.g6, hA.1.g7, hA.1.g8, hA.1.g9, hA.1.g10, hA.1.g11, hA.1.g12, hA.1.g13, hA.1.g14, hA.1.g15, hA.1.g16, hA.1.g17, hA.1.g18, hA.1.g19, hA.i0, hA.i1, hA.i2, hA.i3, hA.i4, hA.i5, hA.i6, hA.i7, hA.i8, hA.i9, hA.i10, hA.j0, hA.j1, hA.j2, hA.j3, hA.j4, hA.j5, hA.j6, hA.j7, hA.j8, hA.j9, hA.j10, eS, n1, hA.wr (c := 8) (by decide), nF_u8, modP_nw h.1.lt]
          simp only [eX7_see_0, eX7_see_1, eX7_see_2, eX7_see_5, eX7_see_6, eX7_see_9, eX7_see_11, eX7_see_12, eX7_see_13, eX7_see_14, eX7_see_15, eX7_see_16, eX7_see_17, eX7_see_20, eX7_see_23, eX7_see_24, eX7_see_25, eX7_see_26, eX7_see_29, eX7_see_32, eX7_see_34, eX7_see_35, eX7_see_36, eX7_see_39, eX7_see_41, eX7_see_42, eX7_see_44, eX7_see_47, eX7_see_49, eX7_see_50, eX7_see_51, eX7_see_54, eX7_see_56, eX7_see_57, eX7_see_60, eX7_see_62, eX7_see_63, eX7_see_64, eX7_see_66, eX7_see_67, eX7_see_68, eX7_see_69, eX7_see_70, eX7_see_71, eX7_see_72, eX7_see_75, eX7_see_77, eX7_see_78, eX7_see_79, eX7_see_80, eX7_see_81, eX7_see_82, eX7_see_83, eX7_see_86, eX7_see_88, eX7_see_89, Nat.add_zero, Nat.reduceAdd, Nat.reduceLeDiff, Nat.zero_le, and_true, o_aload_0r, o_callS_1, o_callV_1, o_const_e, o_dup2_e, o_getf_e, o_iald_e, o_iald_f, o_iast_e, o_icmp_e, o_if_e, o_ii_e, o_iload_1, o_iload_2, o_iret_e, tl_n, tl_s, true_and, xc1_i, xc1_r, xwt_0, xwt_f, xwt_i, xwt_l, xwt_r, hB.1.cls, hB.1.g0, hB.1.g1, hB.1.g2, hB.1.g3, hB.1.g4, hB.1.g5, hB.1.g6, hB.1.g7, hB.1.g8, hB.1.g9, hB.1.g10, hB.1.g11, hB.1.g12, hB.1.g13, hB.1.g14, hB.1.g15, hB.1.g16, hB.1.g17, hB.1.g18, hB.1.g19, hB.i0, hB.i1, hB.i2, hB.i3, hB.i4, hB.i5, hB.i6, hB.i7, hB.i8, hB.i9, hB.i10, hB.j0, hB.j1, hB.j2, hB.j3, hB.j4, hB.j5, hB.j6, hB.j7, hB.j8, hB.j9, hB.j10, n8, hB.1.cls, hB.1.g0, hB.1.g1, hB.1.g2, hB.1.g3, hB.1.g4, hB.1.g5, hB.1.g6, hB.1.g7, hB.1.g8, hB.1.g9, hB.1.g10, hB.1.g11, hB.1.g12, hB.1.g13, hB.1.g14, hB.1.g15, hB.1.g16, hB.1.g17, hB.1.g18, hB.1.g19, hB.i0, hB.i1, hB.i2, hB.i3, hB.i4, hB.i5, hB.i6, hB.i7, hB.i8, hB.i9, hB.i10, hB.j0, hB.j1, hB.j2, hB.j3, hB.j4, hB.j5, hB.j6, hB.j7, hB.j8, hB.j9, hB.j10, eB]
          refine k _ ⟨rfl, R2, R3, fun a ha => ?_, R5, R6⟩
          show va_up r.sn p.S.2 (nI (8 * j + i)) a = nI (8 * (va_up p.S.1 p.S.2 (j, i) a).1 + (va_up p.S.1 p.S.2 (j, i) a).2)
          have ha : a < p.S.2 + 1 := ha
          unfold va_up
          split
          · rfl
          · exact R4 a (by omega)
theorem d_book (h : MoL AH m s x r) (ok : x.ok) (hR : RwM p r) (hp : p.ok) {c v : Int32} {Q : Option Value → xH → Prop} (k : ∀ r', RwM (p.S, p.E, (x.cm p.K 8 c v).2) r' → Q (some (.int (x.cm p.K 8 c v).1)) (modP AH m (s.wnw (nF x r')))) : XC MX7_book [.ref m, .int c, .int v] AH Q := by
  have hn := sLat.n36 ok
  have hS := hp.2.2
  have hl := hS.1
  obtain ⟨R1, R2, R3, R4, R5, R6⟩ := hR
  unfold sLat.cm at k
  refine XC.ofR (L := [some (.ref m), some (.int c), some (.int v)]) KX7_book (by decide +kernel) (by first | decide | exact Nat.le_of_ble_eq_true rfl) rfl ?_
  by_cases h1 : c = -1
  · subst h1
    rw [if_pos rfl] at k
    simp only [eX7_book_0, eX7_book_1, eX7_book_2, eX7_book_5, eX7_book_6, eX7_book_9, eX7_book_11, eX7_book_12, eX7_book_13, eX7_book_14, eX7_book_15, eX7_book_16, eX7_book_17, eX7_book_20, eX7_book_23, eX7_book_24, eX7_book_25, eX7_book_26, eX7_book_29, eX7_book_32, eX7_book_34, eX7_book_35, eX7_book_36, eX7_book_39, eX7_book_41, eX7_book_42, eX7_book_44, eX7_book_47, eX7_book_49, eX7_book_50, eX7_book_51, eX7_book_54, eX7_book_56, eX7_book_57, eX7_book_60, eX7_book_62, eX7_book_63, eX7_book_64, eX7_book_66, eX7_book_67, eX7_book_68, eX7_book_69, eX7_book_70, eX7_book_71, eX7_book_72, eX7_book_75, eX7_book_77, eX7_book_78, eX7_book_79, eX7_book_80, eX7_book_81, eX7_book_82, eX7_book_83, eX7_book_86, eX7_book_88, eX7_book_89, Nat.add_zero, Nat.reduceAdd, Nat.reduceLeDiff, Nat.zero_le, and_true, o_aload_0r, o_callS_1, o_callV_1, o_const_e, o_dup2_e, o_getf_e, o_iald_e, o_iald_f, o_iast_e, o_icmp_e, o_if_e, o_ii_e, o_iload_1, o_iload_2, o_iret_e, tl_n, tl_s, true_and, xc1_i, xc1_r, xwt_0, xwt_f, xwt_i, xwt_l, xwt_r, eq_self, not_true_eq_false, not_false_eq_true, true_implies, false_implies, and_true, true_and, implies_true, forall_const, ↓reduceIte, Bool.false_eq_true, i10, i10n, h.1.cls, h.1.g0, h.1.g1, h.1.g2, h.1.g3, h.1.g4, h.1.g5, h.1.g6, h.1.g7, h.1.g8, h.1.g9, h.1.g10, h.1.g11, h.1.g12, h.1.g13, h.1.g14, h.1.g15, h.1.g16, h.1.g17, h.1.g18, h.1.g19, h.i0, h.i1, h.i2, h.i3, h.i4, h.i5, h.i6, h.i7, h.i8, h.i9, h.i10, h.j0, h.j1, h.j2, h.j3, h.j4, h.j5, h.j6, h.j7, h.j8, h.j9, h.j10, n10, z_nI, h.wr (c := 10) (by decide), nF_u10]
    exact k _ ⟨R1, R2, rfl, R4, R5, fun i hi => absurd hi (Nat.not_lt_zero i)⟩
  · rw [if_neg h1] at k
    simp only [eX7_book_0, eX7_book_1, eX7_book_2, eX7_book_5, eX7_book_6, eX7_book_9, eX7_book_11, eX7_book_12, eX7_book_13, eX7_book_14, eX7_book_15, eX7_book_16, eX7_book_17, eX7_book_20, eX7_book_23, eX7_book_24, eX7_book_25, eX7_book_26, eX7_book_29, eX7_book_32, eX7_book_34, eX7_book_35, eX7_book_36, eX7_book_39, eX7_book_41, eX7_book_42, eX7_book_44, eX7_book_47, eX7_book_49, eX7_book_50, eX7_book_51, eX7_book_54, eX7_book_56, eX7_book_57, eX7_book_60, eX7_book_62, eX7_book_63, eX7_book_64, eX7_book_66, eX7_book_67, eX7_book_68, eX7_book_69, eX7_book_70, eX7_book_71, eX7_book_72, eX7_book_75, eX7_book_77, eX7_book_78, eX7_book_79, eX7_book_80, eX7_book_81, eX7_book_82, eX7_book_83, eX7_book_86, eX7_book_88, eX7_book_89, Nat.add_zero, Nat.reduceAdd, Nat.reduceLeDiff, Nat.zero_le, and_true, o_aload_0r, o_callS_1, o_callV_1, o_const_e, o_dup2_e, o_getf_e, o_iald_e, o_iald_f, o_iast_e, o_icmp_e, o_if_e, o_ii_e, o_iload_1, o_iload_2, o_iret_e, tl_n, tl_s, true_and, xc1_i, xc1_r, xwt_0, xwt_f, xwt_i, xwt_l, xwt_r, h1, not_true_eq_false, not_false_eq_true, true_implies, false_implies, and_true, true_and, implies_true, forall_const, ↓reduceIte, Bool.false_eq_true, i10, i10n, h.1.cls, h.1.g0, h.1.g1, h.1.g2, h.1.g3, h.1.g4, h.1.g5, h.1.g6, h.1.g7, h.1.g8, h.1.g9, h.1.g10, h.1.g11, h.1.g12, h.1.g13, h.1.g14, h.1.g15, h.1.g16, h.1.g17, h.1.g18, h.1.g19, h.i0, h.i1, h.i2, h.i3, h.i4, h.i5, h.i6, h.i7, h.i8, h.i9, h.i10, h.j0, h.j1, h.j2, h.j3, h.j4, h.j5, h.j6, h.j7, h.j8, h.j9, h.j10]
    refine d_isCell h ok ?_
    cases hc : ix x.n c with
    | none =>
      simp only [hc] at k
      have k := k r ⟨R1, R2, R3, R4, R5, R6⟩
      rw [h.self] at k
      simp only [eX7_book_0, eX7_book_1, eX7_book_2, eX7_book_5, eX7_book_6, eX7_book_9, eX7_book_11, eX7_book_12, eX7_book_13, eX7_book_14, eX7_book_15, eX7_book_16, eX7_book_17, eX7_book_20, eX7_book_23, eX7_book_24, eX7_book_25, eX7_book_26, eX7_book_29, eX7_book_32, eX7_book_34, eX7_book_35, eX7_book_36, eX7_book_39, eX7_book_41, eX7_book_42, eX7_book_44, eX7_book_47, eX7_book_49, eX7_book_50, eX7_book_51, eX7_book_54, eX7_book_56, eX7_book_57, eX7_book_60, eX7_book_62, eX7_book_63, eX7_book_64, eX7_book_66, eX7_book_67, eX7_book_68, eX7_book_69, eX7_book_70, eX7_book_71, eX7_book_72, eX7_book_75, eX7_book_77, eX7_book_78, eX7_book_79, eX7_book_80, eX7_book_81, eX7_book_82, eX7_book_83, eX7_book_86, eX7_book_88, eX7_book_89, Nat.add_zero, Nat.reduceAdd, Nat.reduceLeDiff, Nat.zero_le, and_true, o_aload_0r, o_callS_1, o_callV_1, o_const_e, o_dup2_e, o_getf_e, o_iald_e, o_iald_f, o_iast_e, o_icmp_e, o_if_e, o_ii_e, o_iload_1, o_iload_2, o_iret_e, tl_n, tl_s, true_and, xc1_i, xc1_r, xwt_0, xwt_f, xwt_i, xwt_l, xwt_r, Option.isSome, not_true_eq_false, not_false_eq_true, true_implies, false_implies, and_true, true_and, implies_true, forall_const, ↓reduceIte, Bool.false_eq_true, i10, i10n]
      exact k
    | some j =>
      obtain ⟨hj, rfl⟩ := ix_s (by omega) hc
      simp only [eX7_book_0, eX7_book_1, eX7_book_2, eX7_book_5, eX7_book_6, eX7_book_9, eX7_book_11, eX7_book_12, eX7_book_13, eX7_book_14, eX7_book_15, eX7_book_16, eX7_book_17, eX7_book_20, eX7_book_23, eX7_book_24, eX7_book_25, eX7_book_26, eX7_book_29, eX7_book_32, eX7_book_34, eX7_book_35, eX7_book_36, eX7_book_39, eX7_book_41, eX7_book_42, eX7_book_44, eX7_book_47, eX7_book_49, eX7_book_50, eX7_book_51, eX7_book_54, eX7_book_56, eX7_book_57, eX7_book_60, eX7_book_62, eX7_book_63, eX7_book_64, eX7_book_66, eX7_book_67, eX7_book_68, eX7_book_69, eX7_book_70, eX7_book_71, eX7_book_72, eX7_book_75, eX7_book_77, eX7_book_78, eX7_book_79, eX7_book_80, eX7_book_81, eX7_book_82, eX7_book_83, eX7_book_86, eX7_book_88, eX7_book_89, Nat.add_zero, Nat.reduceAdd, Nat.reduceLeDiff, Nat.zero_le, and_true, o_aload_0r, o_callS_1, o_callV_1, o_const_e, o_dup2_e, o_getf_e, o_iald_e, o_iald_f, o_iast_e, o_icmp_e, o_if_e, o_ii_e, o_iload_1, o_iload_2, o_iret_e, tl_n, tl_s, true_and, xc1_i, xc1_r, xwt_0, xwt_f, xwt_i, xwt_l, xwt_r, Option.isSome, not_true_eq_false, not_false_eq_true, true_implies, false_implies, and_true, true_and, implies_true, forall_const, ↓reduceIte, Bool.false_eq_true, i10, i10n]
      refine d_isMark ?_
      cases hv : ix 8 v with
      | none =>
        simp only [hc, hv] at k
        have k := k r ⟨R1, R2, R3, R4, R5, R6⟩
        rw [h.self] at k
        simp only [eX7_book_0, eX7_book_1, eX7_book_2, eX7_book_5, eX7_book_6, eX7_book_9, eX7_book_11, eX7_book_12, eX7_book_13, eX7_book_14, eX7_book_15, eX7_book_16, eX7_book_17, eX7_book_20, eX7_book_23, eX7_book_24, eX7_book_25, eX7_book_26, eX7_book_29, eX7_book_32, eX7_book_34, eX7_book_35, eX7_book_36, eX7_book_39, eX7_book_41, eX7_book_42, eX7_book_44, eX7_book_47, eX7_book_49, eX7_book_50, eX7_book_51, eX7_book_54, eX7_book_56, eX7_book_57, eX7_book_60, eX7_book_62, eX7_book_63, eX7_book_64, eX7_book_66, eX7_book_67, eX7_book_68, eX7_book_69, eX7_book_70, eX7_book_71, eX7_book_72, eX7_book_75, eX7_book_77, eX7_book_78, eX7_book_79, eX7_book_80, eX7_book_81, eX7_book_82, eX7_book_83, eX7_book_86, eX7_book_88, eX7_book_89, Nat.add_zero, Nat.reduceAdd, Nat.reduceLeDiff, Nat.zero_le, and_true, o_aload_0r, o_callS_1, o_callV_1, o_const_e, o_dup2_e, o_getf_e, o_iald_e, o_iald_f, o_iast_e, o_icmp_e, o_if_e, o_ii_e, o_iload_1, o_iload_2, o_iret_e, tl_n, tl_s, true_and, xc1_i, xc1_r, xwt_0, xwt_f, xwt_i, xwt_l, xwt_r, Option.isSome, not_true_eq_false, not_false_eq_true, true_implies, false_implies, and_true, true_and, implies_true, forall_const, ↓reduceIte, Bool.false_eq_true, i10, i10n]
        exact k
      | some i =>
        obtain ⟨hi, rfl⟩ := ix_s (by omega) hv
        simp only [hc, hv] at k
        unfold pu at k
        simp only [eX7_book_0, eX7_book_1, eX7_book_2, eX7_book_5, eX7_book_6, eX7_book_9, eX7_book_11, eX7_book_12, eX7_book_13, eX7_book_14, eX7_book_15, eX7_book_16, eX7_book_17, eX7_book_20, eX7_book_23, eX7_book_24, eX7_book_25, eX7_book_26, eX7_book_29, eX7_book_32, eX7_book_34, eX7_book_35, eX7_book_36, eX7_book_39, eX7_book_41, eX7_book_42, eX7_book_44, eX7_book_47, eX7_book_49, eX7_book_50, eX7_book_51, eX7_book_54, eX7_book_56, eX7_book_57, eX7_book_60, eX7_book_62, eX7_book_63, eX7_book_64, eX7_book_66, eX7_book_67, eX7_book_68, eX7_book_69, eX7_book_70, eX7_book_71, eX7_book_72, eX7_book_75, eX7_book_77, eX7_book_78, eX7_book_79, eX7_book_80, eX7_book_81, eX7_book_82, eX7_book_83, eX7_book_86, eX7_book_88, eX7_book_89, Nat.add_zero, Nat.reduceAdd, Nat.reduceLeDiff, Nat.zero_le, and_true, o_aload_0r, o_callS_1, o_callV_1, o_const_e, o_dup2_e, o_getf_e, o_iald_e, o_iald_f, o_iast_e, o_icmp_e, o_if_e, o_ii_e, o_iload_1, o_iload_2, o_iret_e, tl_n, tl_s, true_and, xc1_i, xc1_r, xwt_0, xwt_f, xwt_i, xwt_l, xwt_r, Option.isSome, not_true_eq_false, not_false_eq_true, true_implies, false_implies, and_true, true_and, implies_true, forall_const, ↓reduceIte, Bool.false_eq_true, i10, i10n, h.1.cls, h.1.g0, h.1.g1, h.1.g2, h.1.g3, h.1.g4, h.1.g5, h.1.g6, h.1.g7, h.1.g8, h.1.g9, h.1.g10, h.1.g11, h.1.g12, h.1.g13, h.1.g14, h.1.g15, h.1.g16, h.1.g17, h.1.g18, h.1.g19, h.i0, h.i1, h.i2, h.i3, h.i4, h.i5, h.i6, h.i7, h.i8, h.i9, h.i10, h.j0, h.j1, h.j2, h.j3, h.j4, h.j5, h.j6, h.j7, h.j8, h.j9, h.j10, n8, n10, h.1.cls, h.1.g0, h.1.g1, h.1.g2, h.1.g3, h.1.g4, h.1.g5, h.1.g6, h.1.g7, h.1.g8, h.1.g9, h.1.g10, h.1.g11, h.1.g12, h.1.g13, h.1.g14, h.1.g15, h.1.g16, h.1.g17, h.1.g18, h.1.g19, h.i0, h.i1, h.i2, h.i3, h.i4, h.i5, h.i6, h.i7, h.i8, h.i9, h.i10, h.j0, h.j1, h.j2, h.j3, h.j4, h.j5, h.j6, h.j7, h.j8, h.j9, h.j10, R3, eq_nI (a := p.K.2) (b := 8) (by omega) (by omega)]
        by_cases h6 : p.K.2 = 8
        · rw [if_pos h6] at k
          have k := k r ⟨R1, R2, R3, R4, R5, R6⟩
          rw [h.self] at k
          exact ⟨fun g => absurd h6 g, fun _ => k⟩
        · rw [if_neg h6] at k
          have hA : MoL (modP AH m (s.wnw (nF x (r.wbk p.K.2 (nI (8 * j + i)))))) m (s.wnw (nF x (r.wbk p.K.2 (nI (8 * j + i))))) x (r.wbk p.K.2 (nI (8 * j + i))) := h.put _ _
          have eS : (r.wbk p.K.2 (nI (8 * j + i))).nB = p.K.2 := R3
          have hB : MoL (modP AH m (s.wnw (nF x ((r.wbk p.K.2 (nI (8 * j + i))).wnB (p.K.2 + 1))))) m (s.wnw (nF x ((r.wbk p.K.2 (nI (8 * j + i))).wnB (p.K.2 + 1)))) x ((r.wbk p.K.2 (nI (8 * j + i))).wnB (p.K.2 + 1)) := h.put _ _
          have eB : ((r.wbk p.K.2 (nI (8 * j + i))).wnB (p.K.2 + 1)).nB = p.K.2 + 1 := rfl
          refine ⟨fun _ => ?_, fun g => absurd (Classical.not_not.mp g) h6⟩
          simp only [eX7_book_0, eX7_book_1, eX7_book_2, eX7_book_5, eX7_book_6, eX7_book_9, eX7_book_11, eX7_book_12, eX7_book_13, eX7_book_14, eX7_book_15, eX7_book_16, eX7_book_17, eX7_book_20, eX7_book_23, eX7_book_24, eX7_book_25, eX7_book_26, eX7_book_29, eX7_book_32, eX7_book_34, eX7_book_35, eX7_book_36, eX7_book_39, eX7_book_41, eX7_book_42, eX7_book_44, eX7_book_47, eX7_book_49, eX7_book_50, eX7_book_51, eX7_book_54, eX7_book_56, eX7_book_57, eX7_book_60, eX7_book_62, eX7_book_63, eX7_book_64, eX7_book_66, eX7_book_67, eX7_book_68, eX7_book_69, eX7_book_70, eX7_book_71, eX7_book_72, eX7_book_75, eX7_book_77, eX7_book_78, eX7_book_79, eX7_book_80, eX7_book_81, eX7_book_82, eX7_book_83, eX7_book_86, eX7_book_88, eX7_book_89, Nat.add_zero, Nat.reduceAdd, Nat.reduceLeDiff, Nat.zero_le, and_true, o_aload_0r, o_callS_1, o_callV_1, o_const_e, o_dup2_e, o_getf_e, o_iald_e, o_iald_f, o_iast_e, o_icmp_e, o_if_e, o_ii_e, o_iload_1, o_iload_2, o_iret_e, tl_n, tl_s, true_and, xc1_i, xc1_r, xwt_0, xwt_f, xwt_i, xwt_l, xwt_r, h.1.cls, h.1.g0, h.1.g1, h.1.g2, h.1.g3, h.1.g4, h.1.g5, h.1.g6, h.1.g7, h.1.g8, h.1.g9, h.1.g10, h.1.g11, h.1.g12, h.1.g13, h.1.g14, h.1.g15, h.1.g16, h.1.g17, h.1.g18, h.1.g19, h.i0, h.i1, h.i2, h.i3, h.i4, h.i5, h.i6, h.i7, h.i8, h.i9, h.i10, h.j0, h.j1, h.j2, h.j3, h.j4, h.j5, h.j6, h.j7, h.j8, h.j9, h.j10, n8, n10, h.1.cls, h.1.g0, h.1.g1, h.1.g2, h.1.g3, h.1.g4, h.1.g5, h.1.g6, h.1.g7, h.1.g8, h.1.g9, h.1.g10, h.1.g11, h.1.g12, h.1.g13, h.1.g14, h.1.g15, h.1.g16, h.1.g17, h.1.g18, h.1.g19, h.i0, h.i1, h.i2, h.i3, h.i4, h.i5, h.i6, h.i7, h.i8, h.i9, h.i10, h.j0, h.j1, h.j2, h.j3, h.j4, h.j5, h.j6, h.j7, h.j8, h.j9, h.j10, R3, n105, nI_add, pk_mul, h.wk (c := p.K.2) (by omega), hA.1.cls, hA.1.g0, hA.1.g1, hA.1.g2, hA.1.g3, hA.1.g4, hA.1.g5, hA.1.g6, hA.1.g7, hA.1.g8, hA.1.g9, hA.1.g10, hA.1.g11, hA.1.g12, hA.1.g13, hA.1.g14, hA.1.g15, hA.1.g16, hA.1.g17, hA.1.g18, hA.1.g19, hA.i0, hA.i1, hA.i2, hA.i3, hA.i4, hA.i5, hA.i6, hA.i7, hA.i8, hA.i9, hA.i10, hA.j0, hA.j1, hA.j2, hA.j3, hA.j4, hA.j5, hA.j6, hA.j7, hA.j8, hA.j9, hA.j10, eS, n1, hA.wr (c := 10) (by decide), nF_u10, modP_nw h.1.lt]
          simp only [eX7_book_0, eX7_book_1, eX7_book_2, eX7_book_5, eX7_book_6, eX7_book_9, eX7_book_11, eX7_book_12, eX7_book_13, eX7_book_14, eX7_book_15, eX7_book_16, eX7_book_17, eX7_book_20, eX7_book_23, eX7_book_24, eX7_book_25, eX7_book_26, eX7_book_29, eX7_book_32, eX7_book_34, eX7_book_35, eX7_book_36, eX7_book_39, eX7_book_41, eX7_book_42, eX7_book_44, eX7_book_47, eX7_book_49, eX7_book_50, eX7_book_51, eX7_book_54, eX7_book_56, eX7_book_57, eX7_book_60, eX7_book_62, eX7_book_63, eX7_book_64, eX7_book_66, eX7_book_67, eX7_book_68, eX7_book_69, eX7_book_70, eX7_book_71, eX7_book_72, eX7_book_75, eX7_book_77, eX7_book_78, eX7_book_79, eX7_book_80, eX7_book_81, eX7_book_82, eX7_book_83, eX7_book_86, eX7_book_88, eX7_book_89, Nat.add_zero, Nat.reduceAdd, Nat.reduceLeDiff, Nat.zero_le, and_true, o_aload_0r, o_callS_1, o_callV_1, o_const_e, o_dup2_e, o_getf_e, o_iald_e, o_iald_f, o_iast_e, o_icmp_e, o_if_e, o_ii_e, o_iload_1, o_iload_2, o_iret_e, tl_n, tl_s, true_and, xc1_i, xc1_r, xwt_0, xwt_f, xwt_i, xwt_l, xwt_r, hB.1.cls, hB.1.g0, hB.1.g1, hB.1.g2, hB.1.g3, hB.1.g4, hB.1.g5, hB.1.g6, hB.1.g7, hB.1.g8, hB.1.g9, hB.1.g10, hB.1.g11, hB.1.g12, hB.1.g13, hB.1.g14, hB.1.g15, hB.1.g16, hB.1.g17, hB.1.g18, hB.1.g19, hB.i0, hB.i1, hB.i2, hB.i3, hB.i4, hB.i5, hB.i6, hB.i7, hB.i8, hB.i9, hB.i10, hB.j0, hB.j1, hB.j2, hB.j3, hB.j4, hB.j5, hB.j6, hB.j7, hB.j8, hB.j9, hB.j10, n10, hB.1.cls, hB.1.g0, hB.1.g1, hB.1.g2, hB.1.g3, hB.1.g4, hB.1.g5, hB.1.g6, hB.1.g7, hB.1.g8, hB.1.g9, hB.1.g10, hB.1.g11, hB.1.g12, hB.1.g13, hB.1.g14, hB.1.g15, hB.1.g16, hB.1.g17, hB.1.g18, hB.1.g19, hB.i0, hB.i1, hB.i2, hB.i3, hB.i4, hB.i5, hB.i6, hB.i7, hB.i8, hB.i9, hB.i10, hB.j0, hB.j1, hB.j2, hB.j3, hB.j4, hB.j5, hB.j6, hB.j7, hB.j8, hB.j9, hB.j10, eB]
          refine k _ ⟨R1, R2, rfl, R4, R5, fun a ha => ?_⟩
          show va_up r.bk p.K.2 (nI (8 * j + i)) a = nI (8 * (va_up p.K.1 p.K.2 (j, i) a).1 + (va_up p.K.1 p.K.2 (j, i) a).2)
          have ha : a < p.K.2 + 1 := ha
          unfold va_up
          split
          · rfl
          · exact R6 a (by omega)
theorem ix_nI {n j : Nat} (hn : n < 2 ^ 31) (hj : j < 2 ^ 31) : ix n (nI j) = if j < n then some j else none := by
  rcases ix_cases hn (nI j) with ⟨i, h1, h2, e⟩ | ⟨h0, e⟩ | ⟨h0, h1, e⟩
  · have := (nI_eq (by omega) (by omega)).mp h2
    subst this
    rw [e, if_pos h1]
  · exact absurd h0 (nI_pos hj)
  · rw [le_nI hn hj] at h1
    rw [e, if_neg (by omega)]
theorem k_isSeen {y : sLat} (h : MoL AH m s y r) (oy : y.ok) (hR : RwM p r) (hp : p.ok) {Q : xQ} (k : Q (some (.int (if unF p.S.1 y p.S.2 = none then 1 else 0))) AH (0, 0)) : ∀ (n i : Nat), i + n = p.S.2 → unF p.S.1 y i = none → ∀ w : Option Value,
    XR TX7_isSeen 2 [some (.ref m), some (.int (nI i)), w] [] AH (0, 0) Q := by
  have hn := sLat.n36 oy
  have hl := hp.1.1
  intro n
  induction n with
  | zero =>
    intro i hi hu w
    rw [eX7_isSeen_2]
    simp only [eX7_isSeen_0, eX7_isSeen_1, eX7_isSeen_3, eX7_isSeen_4, eX7_isSeen_7, eX7_isSeen_9, eX7_isSeen_10, eX7_isSeen_13, eX7_isSeen_14, eX7_isSeen_17, eX7_isSeen_19, eX7_isSeen_20, eX7_isSeen_21, eX7_isSeen_22, eX7_isSeen_23, eX7_isSeen_24, eX7_isSeen_25, eX7_isSeen_27, eX7_isSeen_28, eX7_isSeen_31, eX7_isSeen_34, eX7_isSeen_35, eX7_isSeen_38, eX7_isSeen_40, eX7_isSeen_41, eX7_isSeen_43, eX7_isSeen_44, eX7_isSeen_45, eX7_isSeen_46, eX7_isSeen_47, eX7_isSeen_49, eX7_isSeen_50, eX7_isSeen_53, eX7_isSeen_54, eX7_isSeen_55, eX7_isSeen_58, eX7_isSeen_61, eX7_isSeen_62, Nat.add_zero, Nat.reduceAdd, Nat.reduceLeDiff, Nat.zero_le, and_true, o_aload_0r, o_callV_1, o_const_e, o_getf_e, o_goto_e, o_iald_e, o_iald_f, o_icmp_e, o_idiv_e, o_if_e, o_ii_e, o_iinc_1, o_iload_1, o_iload_2, o_irem_e, o_ist_1, o_ist_2, o_zret_0, o_zret_1, tl_n, tl_s, true_and, xnlv_i, xnlv_n, xnlv_r, xwt_0, xwt_f, xwt_i, xwt_l, xwt_r, h.1.cls, h.1.g0, h.1.g1, h.1.g2, h.1.g3, h.1.g4, h.1.g5, h.1.g6, h.1.g7, h.1.g8, h.1.g9, h.1.g10, h.1.g11, h.1.g12, h.1.g13, h.1.g14, h.1.g15, h.1.g16, h.1.g17, h.1.g18, h.1.g19, h.i0, h.i1, h.i2, h.i3, h.i4, h.i5, h.i6, h.i7, h.i8, h.i9, h.i10, h.j0, h.j1, h.j2, h.j3, h.j4, h.j5, h.j6, h.j7, h.j8, h.j9, h.j10, n8, h.1.cls, h.1.g0, h.1.g1, h.1.g2, h.1.g3, h.1.g4, h.1.g5, h.1.g6, h.1.g7, h.1.g8, h.1.g9, h.1.g10, h.1.g11, h.1.g12, h.1.g13, h.1.g14, h.1.g15, h.1.g16, h.1.g17, h.1.g18, h.1.g19, h.i0, h.i1, h.i2, h.i3, h.i4, h.i5, h.i6, h.i7, h.i8, h.i9, h.i10, h.j0, h.j1, h.j2, h.j3, h.j4, h.j5, h.j6, h.j7, h.j8, h.j9, h.j10, hR.1, le_nI (a := p.S.2) (b := i) (by omega) (by omega)]
    refine ⟨fun _ => ?_, fun g => by omega⟩
    rw [show p.S.2 = i by omega, if_pos hu] at k
    exact k
  | succ n ih =>
    intro i hi hu w
    have hb := hp.1.2 i (by omega)
    have e := hR.2.2.2.1 i (by omega)
    have this := ih (i + 1) (by omega)
    rw [eX7_isSeen_2]
    simp only [eX7_isSeen_0, eX7_isSeen_1, eX7_isSeen_3, eX7_isSeen_4, eX7_isSeen_7, eX7_isSeen_9, eX7_isSeen_10, eX7_isSeen_13, eX7_isSeen_14, eX7_isSeen_17, eX7_isSeen_19, eX7_isSeen_20, eX7_isSeen_21, eX7_isSeen_22, eX7_isSeen_23, eX7_isSeen_24, eX7_isSeen_25, eX7_isSeen_27, eX7_isSeen_28, eX7_isSeen_31, eX7_isSeen_34, eX7_isSeen_35, eX7_isSeen_38, eX7_isSeen_40, eX7_isSeen_41, eX7_isSeen_43, eX7_isSeen_44, eX7_isSeen_45, eX7_isSeen_46, eX7_isSeen_47, eX7_isSeen_49, eX7_isSeen_50, eX7_isSeen_53, eX7_isSeen_54, eX7_isSeen_55, eX7_isSeen_58, eX7_isSeen_61, eX7_isSeen_62, Nat.add_zero, Nat.reduceAdd, Nat.reduceLeDiff, Nat.zero_le, and_true, o_aload_0r, o_callV_1, o_const_e, o_getf_e, o_goto_e, o_iald_e, o_iald_f, o_icmp_e, o_idiv_e, o_if_e, o_ii_e, o_iinc_1, o_iload_1, o_iload_2, o_irem_e, o_ist_1, o_ist_2, o_zret_0, o_zret_1, tl_n, tl_s, true_and, xnlv_i, xnlv_n, xnlv_r, xwt_0, xwt_f, xwt_i, xwt_l, xwt_r, h.1.cls, h.1.g0, h.1.g1, h.1.g2, h.1.g3, h.1.g4, h.1.g5, h.1.g6, h.1.g7, h.1.g8, h.1.g9, h.1.g10, h.1.g11, h.1.g12, h.1.g13, h.1.g14, h.1.g15, h.1.g16, h.1.g17, h.1.g18, h.1.g19, h.i0, h.i1, h.i2, h.i3, h.i4, h.i5, h.i6, h.i7, h.i8, h.i9, h.i10, h.j0, h.j1, h.j2, h.j3, h.j4, h.j5, h.j6, h.j7, h.j8, h.j9, h.j10, n8, h.1.cls, h.1.g0, h.1.g1, h.1.g2, h.1.g3, h.1.g4, h.1.g5, h.1.g6, h.1.g7, h.1.g8, h.1.g9, h.1.g10, h.1.g11, h.1.g12, h.1.g13, h.1.g14, h.1.g15, h.1.g16, h.1.g17, h.1.g18, h.1.g19, h.i0, h.i1, h.i2, h.i3, h.i4, h.i5, h.i6, h.i7, h.i8, h.i9, h.i10, h.j0, h.j1, h.j2, h.j3, h.j4, h.j5, h.j6, h.j7, h.j8, h.j9, h.j10, hR.1, le_nI (a := p.S.2) (b := i) (by omega) (by omega), n83, nI_add, h.rs (c := i) (by omega), e]
    refine ⟨fun g => by omega, fun _ => ?_⟩
    generalize hc : (p.S.1 i).1 = c at *
    generalize hv : (p.S.1 i).2 = v at *
    rw [pk_div (a := 8 * c + v) (d := 8) (by omega) (by omega) (by decide), show (8 * c + v) / 8 = c by omega]
    refine ⟨by decide, d_isCell h oy ?_⟩
    rw [ix_nI (by omega) (by omega)]
    by_cases g1 : c < y.n
    · have lm := oy.1 c
      rw [if_pos g1]
      simp only [eX7_isSeen_0, eX7_isSeen_1, eX7_isSeen_3, eX7_isSeen_4, eX7_isSeen_7, eX7_isSeen_9, eX7_isSeen_10, eX7_isSeen_13, eX7_isSeen_14, eX7_isSeen_17, eX7_isSeen_19, eX7_isSeen_20, eX7_isSeen_21, eX7_isSeen_22, eX7_isSeen_23, eX7_isSeen_24, eX7_isSeen_25, eX7_isSeen_27, eX7_isSeen_28, eX7_isSeen_31, eX7_isSeen_34, eX7_isSeen_35, eX7_isSeen_38, eX7_isSeen_40, eX7_isSeen_41, eX7_isSeen_43, eX7_isSeen_44, eX7_isSeen_45, eX7_isSeen_46, eX7_isSeen_47, eX7_isSeen_49, eX7_isSeen_50, eX7_isSeen_53, eX7_isSeen_54, eX7_isSeen_55, eX7_isSeen_58, eX7_isSeen_61, eX7_isSeen_62, Nat.add_zero, Nat.reduceAdd, Nat.reduceLeDiff, Nat.zero_le, and_true, o_aload_0r, o_callV_1, o_const_e, o_getf_e, o_goto_e, o_iald_e, o_iald_f, o_icmp_e, o_idiv_e, o_if_e, o_ii_e, o_iinc_1, o_iload_1, o_iload_2, o_irem_e, o_ist_1, o_ist_2, o_zret_0, o_zret_1, tl_n, tl_s, true_and, xnlv_i, xnlv_n, xnlv_r, xwt_0, xwt_f, xwt_i, xwt_l, xwt_r, Option.isSome, not_true_eq_false, not_false_eq_true, true_implies, false_implies, and_true, true_and, implies_true, forall_const, ↓reduceIte, Bool.false_eq_true, i10, i10n, h.1.cls, h.1.g0, h.1.g1, h.1.g2, h.1.g3, h.1.g4, h.1.g5, h.1.g6, h.1.g7, h.1.g8, h.1.g9, h.1.g10, h.1.g11, h.1.g12, h.1.g13, h.1.g14, h.1.g15, h.1.g16, h.1.g17, h.1.g18, h.1.g19, h.i0, h.i1, h.i2, h.i3, h.i4, h.i5, h.i6, h.i7, h.i8, h.i9, h.i10, h.j0, h.j1, h.j2, h.j3, h.j4, h.j5, h.j6, h.j7, h.j8, h.j9, h.j10, n8, n11, pk_div (a := 8 * c + v) (d := 8) (by omega) (by omega) (by decide), pk_mul, rem3, nI_add]
      rw [show (8 * c + v) / 8 = c by omega, show (8 * c + v) % 8 = v by omega, h.rm (c := c) (by omega), eq_nI (a := y.mk c) (b := v) (by omega) (by omega), n1, nI_add]
      refine ⟨by decide, by decide, fun g2 => this (unF_s hu (by rw [hc, hv]; exact ⟨g1, g2⟩)) _, fun g2 => ?_⟩
      have := unF_hit hu (k := p.S.2) (by rw [hc, hv]; exact fun z => g2 z.2) (by omega)
      rw [this] at k
      exact k
    · have := unF_hit hu (k := p.S.2) (by rw [hc]; exact fun z => g1 z.1) (by omega)
      rw [this] at k
      rw [if_neg g1]
      simp only [eX7_isSeen_0, eX7_isSeen_1, eX7_isSeen_3, eX7_isSeen_4, eX7_isSeen_7, eX7_isSeen_9, eX7_isSeen_10, eX7_isSeen_13, eX7_isSeen_14, eX7_isSeen_17, eX7_isSeen_19, eX7_isSeen_20, eX7_isSeen_21, eX7_isSeen_22, eX7_isSeen_23, eX7_isSeen_24, eX7_isSeen_25, eX7_isSeen_27, eX7_isSeen_28, eX7_isSeen_31, eX7_isSeen_34, eX7_isSeen_35, eX7_isSeen_38, eX7_isSeen_40, eX7_isSeen_41, eX7_isSeen_43, eX7_isSeen_44, eX7_isSeen_45, eX7_isSeen_46, eX7_isSeen_47, eX7_isSeen_49, eX7_isSeen_50, eX7_isSeen_53, eX7_isSeen_54, eX7_isSeen_55, eX7_isSeen_58, eX7_isSeen_61, eX7_isSeen_62, Nat.add_zero, Nat.reduceAdd, Nat.reduceLeDiff, Nat.zero_le, and_true, o_aload_0r, o_callV_1, o_const_e, o_getf_e, o_goto_e, o_iald_e, o_iald_f, o_icmp_e, o_idiv_e, o_if_e, o_ii_e, o_iinc_1, o_iload_1, o_iload_2, o_irem_e, o_ist_1, o_ist_2, o_zret_0, o_zret_1, tl_n, tl_s, true_and, xnlv_i, xnlv_n, xnlv_r, xwt_0, xwt_f, xwt_i, xwt_l, xwt_r, Option.isSome, not_true_eq_false, not_false_eq_true, true_implies, false_implies, and_true, true_and, implies_true, forall_const, ↓reduceIte, Bool.false_eq_true, i10, i10n]
      exact k
/-- isSeen() -/
theorem d_isSeen {y : sLat} (h : MoL AH m s y r) (oy : y.ok) (hR : RwM p r) (hp : p.ok) {Q : Option Value → xH → Prop} (k : Q (some (.int (if unF p.S.1 y p.S.2 = none then 1 else 0))) AH) : XC MX7_isSeen [.ref m] AH Q := by
  refine XC.ofR (L := [some (.ref m), none, none]) KX7_isSeen (by decide +kernel) (by first | decide | exact Nat.le_of_ble_eq_true rfl) rfl ?_
  simp only [eX7_isSeen_0, eX7_isSeen_1, eX7_isSeen_3, eX7_isSeen_4, eX7_isSeen_7, eX7_isSeen_9, eX7_isSeen_10, eX7_isSeen_13, eX7_isSeen_14, eX7_isSeen_17, eX7_isSeen_19, eX7_isSeen_20, eX7_isSeen_21, eX7_isSeen_22, eX7_isSeen_23, eX7_isSeen_24, eX7_isSeen_25, eX7_isSeen_27, eX7_isSeen_28, eX7_isSeen_31, eX7_isSeen_34, eX7_isSeen_35, eX7_isSeen_38, eX7_isSeen_40, eX7_isSeen_41, eX7_isSeen_43, eX7_isSeen_44, eX7_isSeen_45, eX7_isSeen_46, eX7_isSeen_47, eX7_isSeen_49, eX7_isSeen_50, eX7_isSeen_53, eX7_isSeen_54, eX7_isSeen_55, eX7_isSeen_58, eX7_isSeen_61, eX7_isSeen_62, Nat.add_zero, Nat.reduceAdd, Nat.reduceLeDiff, Nat.zero_le, and_true, o_aload_0r, o_callV_1, o_const_e, o_getf_e, o_goto_e, o_iald_e, o_iald_f, o_icmp_e, o_idiv_e, o_if_e, o_ii_e, o_iinc_1, o_iload_1, o_iload_2, o_irem_e, o_ist_1, o_ist_2, o_zret_0, o_zret_1, tl_n, tl_s, true_and, xnlv_i, xnlv_n, xnlv_r, xwt_0, xwt_f, xwt_i, xwt_l, xwt_r]
  exact k_isSeen h oy hR hp k p.S.2 0 (by omega) rfl none
theorem k_looked {y : sLat} (h : MoL AH m s y r) (oy : y.ok) (hR : RwM p r) (hp : p.ok) {Q : xQ} (k : Q (some (.int (lkV (unF p.K.1 y p.K.2)))) AH (0, 0)) : ∀ (n i : Nat), i + n = p.K.2 → unF p.K.1 y i = none → ∀ w : Option Value,
    XR TX7_looked 2 [some (.ref m), some (.int (nI i)), w] [] AH (0, 0) Q := by
  have hn := sLat.n36 oy
  have hl := hp.2.2.1
  intro n
  induction n with
  | zero =>
    intro i hi hu w
    rw [eX7_looked_2]
    simp only [eX7_looked_0, eX7_looked_1, eX7_looked_3, eX7_looked_4, eX7_looked_7, eX7_looked_9, eX7_looked_10, eX7_looked_13, eX7_looked_14, eX7_looked_17, eX7_looked_19, eX7_looked_20, eX7_looked_21, eX7_looked_22, eX7_looked_23, eX7_looked_24, eX7_looked_25, eX7_looked_27, eX7_looked_28, eX7_looked_31, eX7_looked_34, eX7_looked_35, eX7_looked_38, eX7_looked_40, eX7_looked_41, eX7_looked_43, eX7_looked_44, eX7_looked_45, eX7_looked_46, eX7_looked_47, eX7_looked_49, eX7_looked_50, eX7_looked_53, eX7_looked_54, eX7_looked_55, eX7_looked_58, eX7_looked_61, eX7_looked_63, Nat.add_zero, Nat.reduceAdd, Nat.reduceLeDiff, Nat.zero_le, and_true, o_aload_0r, o_callV_1, o_const_e, o_getf_e, o_goto_e, o_iald_e, o_iald_f, o_icmp_e, o_idiv_e, o_if_e, o_ii_e, o_iinc_1, o_iload_1, o_iload_2, o_irem_e, o_iret_e, o_ist_1, o_ist_2, tl_n, tl_s, true_and, xnlv_i, xnlv_n, xnlv_r, xwt_0, xwt_f, xwt_i, xwt_l, xwt_r, h.1.cls, h.1.g0, h.1.g1, h.1.g2, h.1.g3, h.1.g4, h.1.g5, h.1.g6, h.1.g7, h.1.g8, h.1.g9, h.1.g10, h.1.g11, h.1.g12, h.1.g13, h.1.g14, h.1.g15, h.1.g16, h.1.g17, h.1.g18, h.1.g19, h.i0, h.i1, h.i2, h.i3, h.i4, h.i5, h.i6, h.i7, h.i8, h.i9, h.i10, h.j0, h.j1, h.j2, h.j3, h.j4, h.j5, h.j6, h.j7, h.j8, h.j9, h.j10, n10, h.1.cls, h.1.g0, h.1.g1, h.1.g2, h.1.g3, h.1.g4, h.1.g5, h.1.g6, h.1.g7, h.1.g8, h.1.g9, h.1.g10, h.1.g11, h.1.g12, h.1.g13, h.1.g14, h.1.g15, h.1.g16, h.1.g17, h.1.g18, h.1.g19, h.i0, h.i1, h.i2, h.i3, h.i4, h.i5, h.i6, h.i7, h.i8, h.i9, h.i10, h.j0, h.j1, h.j2, h.j3, h.j4, h.j5, h.j6, h.j7, h.j8, h.j9, h.j10, hR.2.2.1, le_nI (a := p.K.2) (b := i) (by omega) (by omega)]
    refine ⟨fun _ => ?_, fun g => by omega⟩
    rw [show p.K.2 = i by omega, hu] at k
    exact k
  | succ n ih =>
    intro i hi hu w
    have hb := hp.2.2.2 i (by omega)
    have e := hR.2.2.2.2.2 i (by omega)
    have this := ih (i + 1) (by omega)
    rw [eX7_looked_2]
    simp only [eX7_looked_0, eX7_looked_1, eX7_looked_3, eX7_looked_4, eX7_looked_7, eX7_looked_9, eX7_looked_10, eX7_looked_13, eX7_looked_14, eX7_looked_17, eX7_looked_19, eX7_looked_20, eX7_looked_21, eX7_looked_22, eX7_looked_23, eX7_looked_24, eX7_looked_25, eX7_looked_27, eX7_looked_28, eX7_looked_31, eX7_looked_34, eX7_looked_35, eX7_looked_38, eX7_looked_40, eX7_looked_41, eX7_looked_43, eX7_looked_44, eX7_looked_45, eX7_looked_46, eX7_looked_47, eX7_looked_49, eX7_looked_50, eX7_looked_53, eX7_looked_54, eX7_looked_55, eX7_looked_58, eX7_looked_61, eX7_looked_63, Nat.add_zero, Nat.reduceAdd, Nat.reduceLeDiff, Nat.zero_le, and_true, o_aload_0r, o_callV_1, o_const_e, o_getf_e, o_goto_e, o_iald_e, o_iald_f, o_icmp_e, o_idiv_e, o_if_e, o_ii_e, o_iinc_1, o_iload_1, o_iload_2, o_irem_e, o_iret_e, o_ist_1, o_ist_2, tl_n, tl_s, true_and, xnlv_i, xnlv_n, xnlv_r, xwt_0, xwt_f, xwt_i, xwt_l, xwt_r, h.1.cls, h.1.g0, h.1.g1, h.1.g2, h.1.g3, h.1.g4, h.1.g5, h.1.g6, h.1.g7, h.1.g8, h.1.g9, h.1.g10, h.1.g11, h.1.g12, h.1.g13, h.1.g14, h.1.g15, h.1.g16, h.1.g17, h.1.g18, h.1.g19, h.i0, h.i1, h.i2, h.i3, h.i4, h.i5, h.i6, h.i7, h.i8, h.i9, h.i10, h.j0, h.j1, h.j2, h.j3, h.j4, h.j5, h.j6, h.j7, h.j8, h.j9, h.j10, n8, n10, h.1.cls, h.1.g0, h.1.g1, h.1.g2, h.1.g3, h.1.g4, h.1.g5, h.1.g6, h.1.g7, h.1.g8, h.1.g9, h.1.g10, h.1.g11, h.1.g12, h.1.g13, h.1.g14, h.1.g15, h.1.g16, h.1.g17, h.1.g18, h.1.g19, h.i0, h.i1, h.i2, h.i3, h.i4, h.i5, h.i6, h.i7, h.i8, h.i9, h.i10, h.j0, h.j1, h.j2, h.j3, h.j4, h.j5, h.j6, h.j7, h.j8, h.j9, h.j10, hR.2.2.1, le_nI (a := p.K.2) (b := i) (by omega) (by omega), n105, nI_add, h.rk (c := i) (by omega), e]
    refine ⟨fun g => by omega, fun _ => ?_⟩
    generalize hc : (p.K.1 i).1 = c at *
    generalize hv : (p.K.1 i).2 = v at *
    rw [pk_div (a := 8 * c + v) (d := 8) (by omega) (by omega) (by decide), show (8 * c + v) / 8 = c by omega]
    refine ⟨by decide, d_isCell h oy ?_⟩
    rw [ix_nI (by omega) (by omega)]
    by_cases g1 : c < y.n
    · have lm := oy.1 c
      rw [if_pos g1]
      simp only [eX7_looked_0, eX7_looked_1, eX7_looked_3, eX7_looked_4, eX7_looked_7, eX7_looked_9, eX7_looked_10, eX7_looked_13, eX7_looked_14, eX7_looked_17, eX7_looked_19, eX7_looked_20, eX7_looked_21, eX7_looked_22, eX7_looked_23, eX7_looked_24, eX7_looked_25, eX7_looked_27, eX7_looked_28, eX7_looked_31, eX7_looked_34, eX7_looked_35, eX7_looked_38, eX7_looked_40, eX7_looked_41, eX7_looked_43, eX7_looked_44, eX7_looked_45, eX7_looked_46, eX7_looked_47, eX7_looked_49, eX7_looked_50, eX7_looked_53, eX7_looked_54, eX7_looked_55, eX7_looked_58, eX7_looked_61, eX7_looked_63, Nat.add_zero, Nat.reduceAdd, Nat.reduceLeDiff, Nat.zero_le, and_true, o_aload_0r, o_callV_1, o_const_e, o_getf_e, o_goto_e, o_iald_e, o_iald_f, o_icmp_e, o_idiv_e, o_if_e, o_ii_e, o_iinc_1, o_iload_1, o_iload_2, o_irem_e, o_iret_e, o_ist_1, o_ist_2, tl_n, tl_s, true_and, xnlv_i, xnlv_n, xnlv_r, xwt_0, xwt_f, xwt_i, xwt_l, xwt_r, Option.isSome, not_true_eq_false, not_false_eq_true, true_implies, false_implies, and_true, true_and, implies_true, forall_const, ↓reduceIte, Bool.false_eq_true, i10, i10n, h.1.cls, h.1.g0, h.1.g1, h.1.g2, h.1.g3, h.1.g4, h.1.g5, h.1.g6, h.1.g7, h.1.g8, h.1.g9, h.1.g10, h.1.g11, h.1.g12, h.1.g13, h.1.g14, h.1.g15, h.1.g16, h.1.g17, h.1.g18, h.1.g19, h.i0, h.i1, h.i2, h.i3, h.i4, h.i5, h.i6, h.i7, h.i8, h.i9, h.i10, h.j0, h.j1, h.j2, h.j3, h.j4, h.j5, h.j6, h.j7, h.j8, h.j9, h.j10, n8, n11, pk_div (a := 8 * c + v) (d := 8) (by omega) (by omega) (by decide), pk_mul, rem3, nI_add]
      rw [show (8 * c + v) / 8 = c by omega, show (8 * c + v) % 8 = v by omega, h.rm (c := c) (by omega), eq_nI (a := y.mk c) (b := v) (by omega) (by omega), n1, nI_add]
      refine ⟨by decide, by decide, fun g2 => this (unF_s hu (by rw [hc, hv]; exact ⟨g1, g2⟩)) _, fun g2 => ?_⟩
      have := unF_hit hu (k := p.K.2) (by rw [hc, hv]; exact fun z => g2 z.2) (by omega)
      rw [this] at k
      exact k
    · have := unF_hit hu (k := p.K.2) (by rw [hc]; exact fun z => g1 z.1) (by omega)
      rw [this] at k
      rw [if_neg g1]
      simp only [eX7_looked_0, eX7_looked_1, eX7_looked_3, eX7_looked_4, eX7_looked_7, eX7_looked_9, eX7_looked_10, eX7_looked_13, eX7_looked_14, eX7_looked_17, eX7_looked_19, eX7_looked_20, eX7_looked_21, eX7_looked_22, eX7_looked_23, eX7_looked_24, eX7_looked_25, eX7_looked_27, eX7_looked_28, eX7_looked_31, eX7_looked_34, eX7_looked_35, eX7_looked_38, eX7_looked_40, eX7_looked_41, eX7_looked_43, eX7_looked_44, eX7_looked_45, eX7_looked_46, eX7_looked_47, eX7_looked_49, eX7_looked_50, eX7_looked_53, eX7_looked_54, eX7_looked_55, eX7_looked_58, eX7_looked_61, eX7_looked_63, Nat.add_zero, Nat.reduceAdd, Nat.reduceLeDiff, Nat.zero_le, and_true, o_aload_0r, o_callV_1, o_const_e, o_getf_e, o_goto_e, o_iald_e, o_iald_f, o_icmp_e, o_idiv_e, o_if_e, o_ii_e, o_iinc_1, o_iload_1, o_iload_2, o_irem_e, o_iret_e, o_ist_1, o_ist_2, tl_n, tl_s, true_and, xnlv_i, xnlv_n, xnlv_r, xwt_0, xwt_f, xwt_i, xwt_l, xwt_r, Option.isSome, not_true_eq_false, not_false_eq_true, true_implies, false_implies, and_true, true_and, implies_true, forall_const, ↓reduceIte, Bool.false_eq_true, i10, i10n]
      exact k
/-- looked() -/
theorem d_looked {y : sLat} (h : MoL AH m s y r) (oy : y.ok) (hR : RwM p r) (hp : p.ok) {Q : Option Value → xH → Prop} (k : Q (some (.int (lkV (unF p.K.1 y p.K.2)))) AH) : XC MX7_looked [.ref m] AH Q := by
  refine XC.ofR (L := [some (.ref m), none, none]) KX7_looked (by decide +kernel) (by first | decide | exact Nat.le_of_ble_eq_true rfl) rfl ?_
  simp only [eX7_looked_0, eX7_looked_1, eX7_looked_3, eX7_looked_4, eX7_looked_7, eX7_looked_9, eX7_looked_10, eX7_looked_13, eX7_looked_14, eX7_looked_17, eX7_looked_19, eX7_looked_20, eX7_looked_21, eX7_looked_22, eX7_looked_23, eX7_looked_24, eX7_looked_25, eX7_looked_27, eX7_looked_28, eX7_looked_31, eX7_looked_34, eX7_looked_35, eX7_looked_38, eX7_looked_40, eX7_looked_41, eX7_looked_43, eX7_looked_44, eX7_looked_45, eX7_looked_46, eX7_looked_47, eX7_looked_49, eX7_looked_50, eX7_looked_53, eX7_looked_54, eX7_looked_55, eX7_looked_58, eX7_looked_61, eX7_looked_63, Nat.add_zero, Nat.reduceAdd, Nat.reduceLeDiff, Nat.zero_le, and_true, o_aload_0r, o_callV_1, o_const_e, o_getf_e, o_goto_e, o_iald_e, o_iald_f, o_icmp_e, o_idiv_e, o_if_e, o_ii_e, o_iinc_1, o_iload_1, o_iload_2, o_irem_e, o_iret_e, o_ist_1, o_ist_2, tl_n, tl_s, true_and, xnlv_i, xnlv_n, xnlv_r, xwt_0, xwt_f, xwt_i, xwt_l, xwt_r]
  exact k_looked h oy hR hp k p.K.2 0 (by omega) rfl none
theorem k_fits (h : MoL AH m s x r) (ok : x.ok) (hR : RwM p r) (hp : p.ok) {n w2 : Nat} (hn : n ≤ 60) {Q : xQ} (k : ∀ (y : sLat) (w6 : Option Value), XR TX7_fits 93 [some (.ref m), some (.int (nI n)), some (.int (nI w2)), some (.int (nI (x.fiM p.S n 100))), some (.int (lkV (x.fiF p.S n 100))), some (.int (nI 100)), w6] [] (modP AH m ((s.wkp (nF x r)).wnw (nF y r))) (0, 0) Q) : ∀ (z i : Nat), i + z = 100 → ∀ (y : sLat) (w6 : Option Value),
    XR TX7_fits 37 [some (.ref m), some (.int (nI n)), some (.int (nI w2)), some (.int (nI (x.fiM p.S n i))), some (.int (lkV (x.fiF p.S n i))), some (.int (nI i)), w6] [] (modP AH m ((s.wkp (nF x r)).wnw (nF y r))) (0, 0) Q := by
  intro z
  induction z with
  | zero =>
    intro i hi y w6
    rw [eX7_fits_37]
    simp only [eX7_fits_0, eX7_fits_1, eX7_fits_2, eX7_fits_4, eX7_fits_7, eX7_fits_10, eX7_fits_12, eX7_fits_13, eX7_fits_14, eX7_fits_15, eX7_fits_16, eX7_fits_19, eX7_fits_22, eX7_fits_23, eX7_fits_24, eX7_fits_25, eX7_fits_28, eX7_fits_29, eX7_fits_30, eX7_fits_32, eX7_fits_34, eX7_fits_35, eX7_fits_39, eX7_fits_41, eX7_fits_44, eX7_fits_45, eX7_fits_48, eX7_fits_49, eX7_fits_52, eX7_fits_54, eX7_fits_56, eX7_fits_57, eX7_fits_58, eX7_fits_59, eX7_fits_62, eX7_fits_64, eX7_fits_65, eX7_fits_68, eX7_fits_71, eX7_fits_72, eX7_fits_75, eX7_fits_77, eX7_fits_80, eX7_fits_82, eX7_fits_84, eX7_fits_87, eX7_fits_90, eX7_fits_94, eX7_fits_97, eX7_fits_98, eX7_fits_101, eX7_fits_102, eX7_fits_105, eX7_fits_107, Nat.add_zero, Nat.reduceAdd, Nat.reduceLeDiff, Nat.zero_le, and_true, o_aload_0r, o_callS_3, o_callV_0, o_callV_1, o_const_e, o_getf_e, o_goto_e, o_iast_e, o_icmp_e, o_if_e, o_iinc_3, o_iinc_5, o_iload_1, o_iload_2, o_iload_3, o_iload_4, o_iload_5, o_iret_e, o_ist_3, o_ist_4, o_ist_5, o_ist_6, tl_n, tl_s, true_and, xnlv_i, xnlv_n, xnlv_r, xwt_0, xwt_f, xwt_i, xwt_l, xwt_r, n100, le_nI (a := 100) (b := i) (by omega) (by omega)]
    refine ⟨fun _ => ?_, fun g => by omega⟩
    have e : i = 100 := by omega
    subst e
    exact k y w6
  | succ z ih =>
    intro i hi y w6
    have hA : ModAt (modP AH m ((s.wkp (nF x r)).wnw (nF y r))) m ((s.wkp (nF x r)).wnw (nF y r)) := h.1.put _
    have hml : x.fiM p.S n i ≤ i := sm1_le i
    have this := ih (i + 1) (by omega) (x.fiY n i)
    rw [show x.fiM p.S n (i + 1) = x.fiM p.S n i + (if unF p.S.1 (x.fiY n i) p.S.2 = none then 1 else 0) from rfl, show x.fiF p.S n (i + 1) = (match x.fiF p.S n i with | some z => some z | none => if unF p.S.1 (x.fiY n i) p.S.2 = none then some i else none) from rfl] at this
    have hB : MoL (modP AH m ((s.wkp (nF x r)).wnw (nF x r))) m ((s.wkp (nF x r)).wnw (nF x r)) x r := ⟨h.1.put _, rfl⟩
    have hC : MoL (modP AH m ((s.wkp (nF x r)).wnw (nF (x.wse (nI i)) r))) m ((s.wkp (nF x r)).wnw (nF (x.wse (nI i)) r)) (x.wse (nI i)) r := ⟨h.1.put _, rfl⟩
    have hD : MoL (modP AH m ((s.wkp (nF x r)).wnw (nF (x.fiY n i) r))) m ((s.wkp (nF x r)).wnw (nF (x.fiY n i) r)) (x.fiY n i) r := ⟨h.1.put _, rfl⟩
    rw [eX7_fits_37]
    simp only [eX7_fits_0, eX7_fits_1, eX7_fits_2, eX7_fits_4, eX7_fits_7, eX7_fits_10, eX7_fits_12, eX7_fits_13, eX7_fits_14, eX7_fits_15, eX7_fits_16, eX7_fits_19, eX7_fits_22, eX7_fits_23, eX7_fits_24, eX7_fits_25, eX7_fits_28, eX7_fits_29, eX7_fits_30, eX7_fits_32, eX7_fits_34, eX7_fits_35, eX7_fits_39, eX7_fits_41, eX7_fits_44, eX7_fits_45, eX7_fits_48, eX7_fits_49, eX7_fits_52, eX7_fits_54, eX7_fits_56, eX7_fits_57, eX7_fits_58, eX7_fits_59, eX7_fits_62, eX7_fits_64, eX7_fits_65, eX7_fits_68, eX7_fits_71, eX7_fits_72, eX7_fits_75, eX7_fits_77, eX7_fits_80, eX7_fits_82, eX7_fits_84, eX7_fits_87, eX7_fits_90, eX7_fits_94, eX7_fits_97, eX7_fits_98, eX7_fits_101, eX7_fits_102, eX7_fits_105, eX7_fits_107, Nat.add_zero, Nat.reduceAdd, Nat.reduceLeDiff, Nat.zero_le, and_true, o_aload_0r, o_callS_3, o_callV_0, o_callV_1, o_const_e, o_getf_e, o_goto_e, o_iast_e, o_icmp_e, o_if_e, o_iinc_3, o_iinc_5, o_iload_1, o_iload_2, o_iload_3, o_iload_4, o_iload_5, o_iret_e, o_ist_3, o_ist_4, o_ist_5, o_ist_6, tl_n, tl_s, true_and, xnlv_i, xnlv_n, xnlv_r, xwt_0, xwt_f, xwt_i, xwt_l, xwt_r, n100, le_nI (a := 100) (b := i) (by omega) (by omega), hA.cls]
    refine ⟨fun g => by omega, fun _ => d_lays hA (fun i hi => nF_out hi) (fun i hi => nF_out hi) ?_⟩
    rw [show ((s.wkp (nF x r)).wnw (nF y r)).kp = nF x r from rfl, modP_nw h.1.lt]
    simp only [eX7_fits_0, eX7_fits_1, eX7_fits_2, eX7_fits_4, eX7_fits_7, eX7_fits_10, eX7_fits_12, eX7_fits_13, eX7_fits_14, eX7_fits_15, eX7_fits_16, eX7_fits_19, eX7_fits_22, eX7_fits_23, eX7_fits_24, eX7_fits_25, eX7_fits_28, eX7_fits_29, eX7_fits_30, eX7_fits_32, eX7_fits_34, eX7_fits_35, eX7_fits_39, eX7_fits_41, eX7_fits_44, eX7_fits_45, eX7_fits_48, eX7_fits_49, eX7_fits_52, eX7_fits_54, eX7_fits_56, eX7_fits_57, eX7_fits_58, eX7_fits_59, eX7_fits_62, eX7_fits_64, eX7_fits_65, eX7_fits_68, eX7_fits_71, eX7_fits_72, eX7_fits_75, eX7_fits_77, eX7_fits_80, eX7_fits_82, eX7_fits_84, eX7_fits_87, eX7_fits_90, eX7_fits_94, eX7_fits_97, eX7_fits_98, eX7_fits_101, eX7_fits_102, eX7_fits_105, eX7_fits_107, Nat.add_zero, Nat.reduceAdd, Nat.reduceLeDiff, Nat.zero_le, and_true, o_aload_0r, o_callS_3, o_callV_0, o_callV_1, o_const_e, o_getf_e, o_goto_e, o_iast_e, o_icmp_e, o_if_e, o_iinc_3, o_iinc_5, o_iload_1, o_iload_2, o_iload_3, o_iload_4, o_iload_5, o_iret_e, o_ist_3, o_ist_4, o_ist_5, o_ist_6, tl_n, tl_s, true_and, xnlv_i, xnlv_n, xnlv_r, xwt_0, xwt_f, xwt_i, xwt_l, xwt_r, hB.1.cls, hB.1.g0, hB.1.g1, hB.1.g2, hB.1.g3, hB.1.g4, hB.1.g5, hB.1.g6, hB.1.g7, hB.1.g8, hB.1.g9, hB.1.g10, hB.1.g11, hB.1.g12, hB.1.g13, hB.1.g14, hB.1.g15, hB.1.g16, hB.1.g17, hB.1.g18, hB.1.g19, hB.i0, hB.i1, hB.i2, hB.i3, hB.i4, hB.i5, hB.i6, hB.i7, hB.i8, hB.i9, hB.i10, hB.j0, hB.j1, hB.j2, hB.j3, hB.j4, hB.j5, hB.j6, hB.j7, hB.j8, hB.j9, hB.j10, n7, hB.wr (c := 7) (by decide), nF_u7, modP_nw h.1.lt, hC.1.cls, hC.1.g0, hC.1.g1, hC.1.g2, hC.1.g3, hC.1.g4, hC.1.g5, hC.1.g6, hC.1.g7, hC.1.g8, hC.1.g9, hC.1.g10, hC.1.g11, hC.1.g12, hC.1.g13, hC.1.g14, hC.1.g15, hC.1.g16, hC.1.g17, hC.1.g18, hC.1.g19, hC.i0, hC.i1, hC.i2, hC.i3, hC.i4, hC.i5, hC.i6, hC.i7, hC.i8, hC.i9, hC.i10, hC.j0, hC.j1, hC.j2, hC.j3, hC.j4, hC.j5, hC.j6, hC.j7, hC.j8, hC.j9, hC.j10]
    refine d_many hC (ok_wse ok) (by omega) ?_
    rw [modP_nw h.1.lt, show ((x.wse (nI i)).trN n).1 = x.fiY n i from rfl]
    simp only [eX7_fits_0, eX7_fits_1, eX7_fits_2, eX7_fits_4, eX7_fits_7, eX7_fits_10, eX7_fits_12, eX7_fits_13, eX7_fits_14, eX7_fits_15, eX7_fits_16, eX7_fits_19, eX7_fits_22, eX7_fits_23, eX7_fits_24, eX7_fits_25, eX7_fits_28, eX7_fits_29, eX7_fits_30, eX7_fits_32, eX7_fits_34, eX7_fits_35, eX7_fits_39, eX7_fits_41, eX7_fits_44, eX7_fits_45, eX7_fits_48, eX7_fits_49, eX7_fits_52, eX7_fits_54, eX7_fits_56, eX7_fits_57, eX7_fits_58, eX7_fits_59, eX7_fits_62, eX7_fits_64, eX7_fits_65, eX7_fits_68, eX7_fits_71, eX7_fits_72, eX7_fits_75, eX7_fits_77, eX7_fits_80, eX7_fits_82, eX7_fits_84, eX7_fits_87, eX7_fits_90, eX7_fits_94, eX7_fits_97, eX7_fits_98, eX7_fits_101, eX7_fits_102, eX7_fits_105, eX7_fits_107, Nat.add_zero, Nat.reduceAdd, Nat.reduceLeDiff, Nat.zero_le, and_true, o_aload_0r, o_callS_3, o_callV_0, o_callV_1, o_const_e, o_getf_e, o_goto_e, o_iast_e, o_icmp_e, o_if_e, o_iinc_3, o_iinc_5, o_iload_1, o_iload_2, o_iload_3, o_iload_4, o_iload_5, o_iret_e, o_ist_3, o_ist_4, o_ist_5, o_ist_6, tl_n, tl_s, true_and, xnlv_i, xnlv_n, xnlv_r, xwt_0, xwt_f, xwt_i, xwt_l, xwt_r, hD.1.cls, hD.1.g0, hD.1.g1, hD.1.g2, hD.1.g3, hD.1.g4, hD.1.g5, hD.1.g6, hD.1.g7, hD.1.g8, hD.1.g9, hD.1.g10, hD.1.g11, hD.1.g12, hD.1.g13, hD.1.g14, hD.1.g15, hD.1.g16, hD.1.g17, hD.1.g18, hD.1.g19, hD.i0, hD.i1, hD.i2, hD.i3, hD.i4, hD.i5, hD.i6, hD.i7, hD.i8, hD.i9, hD.i10, hD.j0, hD.j1, hD.j2, hD.j3, hD.j4, hD.j5, hD.j6, hD.j7, hD.j8, hD.j9, hD.j10]
    refine d_isSeen hD (trN_ok (ok_wse ok) n) hR hp ?_
    by_cases hu : unF p.S.1 (x.fiY n i) p.S.2 = none
    · rw [if_pos hu] at this ⊢
      rw [if_pos hu] at this
      simp only [eX7_fits_0, eX7_fits_1, eX7_fits_2, eX7_fits_4, eX7_fits_7, eX7_fits_10, eX7_fits_12, eX7_fits_13, eX7_fits_14, eX7_fits_15, eX7_fits_16, eX7_fits_19, eX7_fits_22, eX7_fits_23, eX7_fits_24, eX7_fits_25, eX7_fits_28, eX7_fits_29, eX7_fits_30, eX7_fits_32, eX7_fits_34, eX7_fits_35, eX7_fits_39, eX7_fits_41, eX7_fits_44, eX7_fits_45, eX7_fits_48, eX7_fits_49, eX7_fits_52, eX7_fits_54, eX7_fits_56, eX7_fits_57, eX7_fits_58, eX7_fits_59, eX7_fits_62, eX7_fits_64, eX7_fits_65, eX7_fits_68, eX7_fits_71, eX7_fits_72, eX7_fits_75, eX7_fits_77, eX7_fits_80, eX7_fits_82, eX7_fits_84, eX7_fits_87, eX7_fits_90, eX7_fits_94, eX7_fits_97, eX7_fits_98, eX7_fits_101, eX7_fits_102, eX7_fits_105, eX7_fits_107, Nat.add_zero, Nat.reduceAdd, Nat.reduceLeDiff, Nat.zero_le, and_true, o_aload_0r, o_callS_3, o_callV_0, o_callV_1, o_const_e, o_getf_e, o_goto_e, o_iast_e, o_icmp_e, o_if_e, o_iinc_3, o_iinc_5, o_iload_1, o_iload_2, o_iload_3, o_iload_4, o_iload_5, o_iret_e, o_ist_3, o_ist_4, o_ist_5, o_ist_6, tl_n, tl_s, true_and, xnlv_i, xnlv_n, xnlv_r, xwt_0, xwt_f, xwt_i, xwt_l, xwt_r, not_true_eq_false, not_false_eq_true, true_implies, false_implies, and_true, true_and, implies_true, forall_const, ↓reduceIte, Bool.false_eq_true, i10, i10n, eq0_nI (a := x.fiM p.S n i) (by omega), n1, nI_add]
      refine ⟨fun g => ?_, fun g => ?_⟩
      · cases hf : x.fiF p.S n i with
        | none => exact absurd ((fiF_M i).mpr hf) g
        | some q => rw [hf] at this; exact this _
      · rw [(fiF_M i).mp (Classical.not_not.mp g)] at this
        exact this _
    · rw [if_neg hu] at this ⊢
      rw [if_neg hu] at this
      have e : (match x.fiF p.S n i with | some z => some z | none => none) = x.fiF p.S n i := by cases x.fiF p.S n i <;> rfl
      rw [e] at this
      simp only [eX7_fits_0, eX7_fits_1, eX7_fits_2, eX7_fits_4, eX7_fits_7, eX7_fits_10, eX7_fits_12, eX7_fits_13, eX7_fits_14, eX7_fits_15, eX7_fits_16, eX7_fits_19, eX7_fits_22, eX7_fits_23, eX7_fits_24, eX7_fits_25, eX7_fits_28, eX7_fits_29, eX7_fits_30, eX7_fits_32, eX7_fits_34, eX7_fits_35, eX7_fits_39, eX7_fits_41, eX7_fits_44, eX7_fits_45, eX7_fits_48, eX7_fits_49, eX7_fits_52, eX7_fits_54, eX7_fits_56, eX7_fits_57, eX7_fits_58, eX7_fits_59, eX7_fits_62, eX7_fits_64, eX7_fits_65, eX7_fits_68, eX7_fits_71, eX7_fits_72, eX7_fits_75, eX7_fits_77, eX7_fits_80, eX7_fits_82, eX7_fits_84, eX7_fits_87, eX7_fits_90, eX7_fits_94, eX7_fits_97, eX7_fits_98, eX7_fits_101, eX7_fits_102, eX7_fits_105, eX7_fits_107, Nat.add_zero, Nat.reduceAdd, Nat.reduceLeDiff, Nat.zero_le, and_true, o_aload_0r, o_callS_3, o_callV_0, o_callV_1, o_const_e, o_getf_e, o_goto_e, o_iast_e, o_icmp_e, o_if_e, o_iinc_3, o_iinc_5, o_iload_1, o_iload_2, o_iload_3, o_iload_4, o_iload_5, o_iret_e, o_ist_3, o_ist_4, o_ist_5, o_ist_6, tl_n, tl_s, true_and, xnlv_i, xnlv_n, xnlv_r, xwt_0, xwt_f, xwt_i, xwt_l, xwt_r, not_true_eq_false, not_false_eq_true, true_implies, false_implies, and_true, true_and, implies_true, forall_const, ↓reduceIte, Bool.false_eq_true, i10, i10n, n1, nI_add]
      exact this _
/-- fits(n, what) -/
theorem d_fits (h : MoL AH m s x r) (ok : x.ok) (hz : s.kz) (hR : RwM p r) (hp : p.ok) {n w : Int32} {Q : Option Value → xH → Prop} (k : ∀ s', s'.pq s → Q (some (.int (x.aFit p.S n w))) (modP AH m s')) : XC MX7_fits [.ref m, .int n, .int w] AH Q := by
  have k0 := k s (sMod.pq.rf s)
  rw [modP_self h.1] at k0
  unfold sLat.aFit at k k0
  refine XC.ofR (L := [some (.ref m), some (.int n), some (.int w), none, none, none, none]) KX7_fits (by decide +kernel) (by first | decide | exact Nat.le_of_ble_eq_true rfl) rfl ?_
  simp only [eX7_fits_0, eX7_fits_1, eX7_fits_2, eX7_fits_4, eX7_fits_7, eX7_fits_10, eX7_fits_12, eX7_fits_13, eX7_fits_14, eX7_fits_15, eX7_fits_16, eX7_fits_19, eX7_fits_22, eX7_fits_23, eX7_fits_24, eX7_fits_25, eX7_fits_28, eX7_fits_29, eX7_fits_30, eX7_fits_32, eX7_fits_34, eX7_fits_35, eX7_fits_39, eX7_fits_41, eX7_fits_44, eX7_fits_45, eX7_fits_48, eX7_fits_49, eX7_fits_52, eX7_fits_54, eX7_fits_56, eX7_fits_57, eX7_fits_58, eX7_fits_59, eX7_fits_62, eX7_fits_64, eX7_fits_65, eX7_fits_68, eX7_fits_71, eX7_fits_72, eX7_fits_75, eX7_fits_77, eX7_fits_80, eX7_fits_82, eX7_fits_84, eX7_fits_87, eX7_fits_90, eX7_fits_93, eX7_fits_94, eX7_fits_97, eX7_fits_98, eX7_fits_101, eX7_fits_102, eX7_fits_105, eX7_fits_107, Nat.add_zero, Nat.reduceAdd, Nat.reduceLeDiff, Nat.zero_le, and_true, o_aload_0r, o_callS_3, o_callV_0, o_callV_1, o_const_e, o_getf_e, o_goto_e, o_iast_e, o_icmp_e, o_if_e, o_iinc_3, o_iinc_5, o_iload_1, o_iload_2, o_iload_3, o_iload_4, o_iload_5, o_iret_e, o_ist_3, o_ist_4, o_ist_5, o_ist_6, tl_n, tl_s, true_and, xnlv_i, xnlv_n, xnlv_r, xwt_0, xwt_f, xwt_i, xwt_l, xwt_r]
  refine d_ix 61 (by decide) (by decide) ?_
  cases hc : ix 61 n with
  | none =>
    simp only [hc] at k0
    simp only [eX7_fits_0, eX7_fits_1, eX7_fits_2, eX7_fits_4, eX7_fits_7, eX7_fits_10, eX7_fits_12, eX7_fits_13, eX7_fits_14, eX7_fits_15, eX7_fits_16, eX7_fits_19, eX7_fits_22, eX7_fits_23, eX7_fits_24, eX7_fits_25, eX7_fits_28, eX7_fits_29, eX7_fits_30, eX7_fits_32, eX7_fits_34, eX7_fits_35, eX7_fits_39, eX7_fits_41, eX7_fits_44, eX7_fits_45, eX7_fits_48, eX7_fits_49, eX7_fits_52, eX7_fits_54, eX7_fits_56, eX7_fits_57, eX7_fits_58, eX7_fits_59, eX7_fits_62, eX7_fits_64, eX7_fits_65, eX7_fits_68, eX7_fits_71, eX7_fits_72, eX7_fits_75, eX7_fits_77, eX7_fits_80, eX7_fits_82, eX7_fits_84, eX7_fits_87, eX7_fits_90, eX7_fits_93, eX7_fits_94, eX7_fits_97, eX7_fits_98, eX7_fits_101, eX7_fits_102, eX7_fits_105, eX7_fits_107, Nat.add_zero, Nat.reduceAdd, Nat.reduceLeDiff, Nat.zero_le, and_true, o_aload_0r, o_callS_3, o_callV_0, o_callV_1, o_const_e, o_getf_e, o_goto_e, o_iast_e, o_icmp_e, o_if_e, o_iinc_3, o_iinc_5, o_iload_1, o_iload_2, o_iload_3, o_iload_4, o_iload_5, o_iret_e, o_ist_3, o_ist_4, o_ist_5, o_ist_6, tl_n, tl_s, true_and, xnlv_i, xnlv_n, xnlv_r, xwt_0, xwt_f, xwt_i, xwt_l, xwt_r, Option.isSome, not_true_eq_false, not_false_eq_true, true_implies, false_implies, and_true, true_and, implies_true, forall_const, ↓reduceIte, Bool.false_eq_true, i10, i10n]
    exact k0
  | some n =>
    obtain ⟨hn, rfl⟩ := ix_s (by decide) hc
    simp only [eX7_fits_0, eX7_fits_1, eX7_fits_2, eX7_fits_4, eX7_fits_7, eX7_fits_10, eX7_fits_12, eX7_fits_13, eX7_fits_14, eX7_fits_15, eX7_fits_16, eX7_fits_19, eX7_fits_22, eX7_fits_23, eX7_fits_24, eX7_fits_25, eX7_fits_28, eX7_fits_29, eX7_fits_30, eX7_fits_32, eX7_fits_34, eX7_fits_35, eX7_fits_39, eX7_fits_41, eX7_fits_44, eX7_fits_45, eX7_fits_48, eX7_fits_49, eX7_fits_52, eX7_fits_54, eX7_fits_56, eX7_fits_57, eX7_fits_58, eX7_fits_59, eX7_fits_62, eX7_fits_64, eX7_fits_65, eX7_fits_68, eX7_fits_71, eX7_fits_72, eX7_fits_75, eX7_fits_77, eX7_fits_80, eX7_fits_82, eX7_fits_84, eX7_fits_87, eX7_fits_90, eX7_fits_93, eX7_fits_94, eX7_fits_97, eX7_fits_98, eX7_fits_101, eX7_fits_102, eX7_fits_105, eX7_fits_107, Nat.add_zero, Nat.reduceAdd, Nat.reduceLeDiff, Nat.zero_le, and_true, o_aload_0r, o_callS_3, o_callV_0, o_callV_1, o_const_e, o_getf_e, o_goto_e, o_iast_e, o_icmp_e, o_if_e, o_iinc_3, o_iinc_5, o_iload_1, o_iload_2, o_iload_3, o_iload_4, o_iload_5, o_iret_e, o_ist_3, o_ist_4, o_ist_5, o_ist_6, tl_n, tl_s, true_and, xnlv_i, xnlv_n, xnlv_r, xwt_0, xwt_f, xwt_i, xwt_l, xwt_r, Option.isSome, not_true_eq_false, not_false_eq_true, true_implies, false_implies, and_true, true_and, implies_true, forall_const, ↓reduceIte, Bool.false_eq_true, i10, i10n]
    refine d_ix 2 (by decide) (by decide) ?_
    cases hw : ix 2 w with
    | none =>
      simp only [hc, hw] at k0
      simp only [eX7_fits_0, eX7_fits_1, eX7_fits_2, eX7_fits_4, eX7_fits_7, eX7_fits_10, eX7_fits_12, eX7_fits_13, eX7_fits_14, eX7_fits_15, eX7_fits_16, eX7_fits_19, eX7_fits_22, eX7_fits_23, eX7_fits_24, eX7_fits_25, eX7_fits_28, eX7_fits_29, eX7_fits_30, eX7_fits_32, eX7_fits_34, eX7_fits_35, eX7_fits_39, eX7_fits_41, eX7_fits_44, eX7_fits_45, eX7_fits_48, eX7_fits_49, eX7_fits_52, eX7_fits_54, eX7_fits_56, eX7_fits_57, eX7_fits_58, eX7_fits_59, eX7_fits_62, eX7_fits_64, eX7_fits_65, eX7_fits_68, eX7_fits_71, eX7_fits_72, eX7_fits_75, eX7_fits_77, eX7_fits_80, eX7_fits_82, eX7_fits_84, eX7_fits_87, eX7_fits_90, eX7_fits_93, eX7_fits_94, eX7_fits_97, eX7_fits_98, eX7_fits_101, eX7_fits_102, eX7_fits_105, eX7_fits_107, Nat.add_zero, Nat.reduceAdd, Nat.reduceLeDiff, Nat.zero_le, and_true, o_aload_0r, o_callS_3, o_callV_0, o_callV_1, o_const_e, o_getf_e, o_goto_e, o_iast_e, o_icmp_e, o_if_e, o_iinc_3, o_iinc_5, o_iload_1, o_iload_2, o_iload_3, o_iload_4, o_iload_5, o_iret_e, o_ist_3, o_ist_4, o_ist_5, o_ist_6, tl_n, tl_s, true_and, xnlv_i, xnlv_n, xnlv_r, xwt_0, xwt_f, xwt_i, xwt_l, xwt_r, Option.isSome, not_true_eq_false, not_false_eq_true, true_implies, false_implies, and_true, true_and, implies_true, forall_const, ↓reduceIte, Bool.false_eq_true, i10, i10n]
      exact k0
    | some w =>
      obtain ⟨hwl, rfl⟩ := ix_s (by decide) hw
      simp only [hc, hw] at k
      simp only [eX7_fits_0, eX7_fits_1, eX7_fits_2, eX7_fits_4, eX7_fits_7, eX7_fits_10, eX7_fits_12, eX7_fits_13, eX7_fits_14, eX7_fits_15, eX7_fits_16, eX7_fits_19, eX7_fits_22, eX7_fits_23, eX7_fits_24, eX7_fits_25, eX7_fits_28, eX7_fits_29, eX7_fits_30, eX7_fits_32, eX7_fits_34, eX7_fits_35, eX7_fits_39, eX7_fits_41, eX7_fits_44, eX7_fits_45, eX7_fits_48, eX7_fits_49, eX7_fits_52, eX7_fits_54, eX7_fits_56, eX7_fits_57, eX7_fits_58, eX7_fits_59, eX7_fits_62, eX7_fits_64, eX7_fits_65, eX7_fits_68, eX7_fits_71, eX7_fits_72, eX7_fits_75, eX7_fits_77, eX7_fits_80, eX7_fits_82, eX7_fits_84, eX7_fits_87, eX7_fits_90, eX7_fits_93, eX7_fits_94, eX7_fits_97, eX7_fits_98, eX7_fits_101, eX7_fits_102, eX7_fits_105, eX7_fits_107, Nat.add_zero, Nat.reduceAdd, Nat.reduceLeDiff, Nat.zero_le, and_true, o_aload_0r, o_callS_3, o_callV_0, o_callV_1, o_const_e, o_getf_e, o_goto_e, o_iast_e, o_icmp_e, o_if_e, o_iinc_3, o_iinc_5, o_iload_1, o_iload_2, o_iload_3, o_iload_4, o_iload_5, o_iret_e, o_ist_3, o_ist_4, o_ist_5, o_ist_6, tl_n, tl_s, true_and, xnlv_i, xnlv_n, xnlv_r, xwt_0, xwt_f, xwt_i, xwt_l, xwt_r, Option.isSome, not_true_eq_false, not_false_eq_true, true_implies, false_implies, and_true, true_and, implies_true, forall_const, ↓reduceIte, Bool.false_eq_true, i10, i10n, h.1.cls, h.1.g0, h.1.g1, h.1.g2, h.1.g3, h.1.g4, h.1.g5, h.1.g6, h.1.g7, h.1.g8, h.1.g9, h.1.g10, h.1.g11, h.1.g12, h.1.g13, h.1.g14, h.1.g15, h.1.g16, h.1.g17, h.1.g18, h.1.g19, h.i0, h.i1, h.i2, h.i3, h.i4, h.i5, h.i6, h.i7, h.i8, h.i9, h.i10, h.j0, h.j1, h.j2, h.j3, h.j4, h.j5, h.j6, h.j7, h.j8, h.j9, h.j10]
      refine d_keeps h hz ?_
      simp only [eX7_fits_0, eX7_fits_1, eX7_fits_2, eX7_fits_4, eX7_fits_7, eX7_fits_10, eX7_fits_12, eX7_fits_13, eX7_fits_14, eX7_fits_15, eX7_fits_16, eX7_fits_19, eX7_fits_22, eX7_fits_23, eX7_fits_24, eX7_fits_25, eX7_fits_28, eX7_fits_29, eX7_fits_30, eX7_fits_32, eX7_fits_34, eX7_fits_35, eX7_fits_39, eX7_fits_41, eX7_fits_44, eX7_fits_45, eX7_fits_48, eX7_fits_49, eX7_fits_52, eX7_fits_54, eX7_fits_56, eX7_fits_57, eX7_fits_58, eX7_fits_59, eX7_fits_62, eX7_fits_64, eX7_fits_65, eX7_fits_68, eX7_fits_71, eX7_fits_72, eX7_fits_75, eX7_fits_77, eX7_fits_80, eX7_fits_82, eX7_fits_84, eX7_fits_87, eX7_fits_90, eX7_fits_93, eX7_fits_94, eX7_fits_97, eX7_fits_98, eX7_fits_101, eX7_fits_102, eX7_fits_105, eX7_fits_107, Nat.add_zero, Nat.reduceAdd, Nat.reduceLeDiff, Nat.zero_le, and_true, o_aload_0r, o_callS_3, o_callV_0, o_callV_1, o_const_e, o_getf_e, o_goto_e, o_iast_e, o_icmp_e, o_if_e, o_iinc_3, o_iinc_5, o_iload_1, o_iload_2, o_iload_3, o_iload_4, o_iload_5, o_iret_e, o_ist_3, o_ist_4, o_ist_5, o_ist_6, tl_n, tl_s, true_and, xnlv_i, xnlv_n, xnlv_r, xwt_0, xwt_f, xwt_i, xwt_l, xwt_r]
      have e1 : (s.wkp (nF x r)).nw = nF x r := h.2
      have := k_fits h ok hR hp (n := n) (w2 := w) (by omega) (Q := fun v AH' _ => Q v AH') (fun y w6 => ?_) 100 0 (by omega) x none
      · rw [show (s.wkp (nF x r)).wnw (nF x r) = s.wkp (nF x r) by rw [← e1]; rfl] at this
        exact this
      · have hA : ModAt (modP AH m ((s.wkp (nF x r)).wnw (nF y r))) m ((s.wkp (nF x r)).wnw (nF y r)) := h.1.put _
        have kk := k ((s.wkp (nF x r)).wnw (nF x r)) ⟨h.2.symm, rfl, rfl, rfl, rfl, rfl, rfl, rfl, fun _ i hi => nF_out hi⟩
        simp only [eX7_fits_0, eX7_fits_1, eX7_fits_2, eX7_fits_4, eX7_fits_7, eX7_fits_10, eX7_fits_12, eX7_fits_13, eX7_fits_14, eX7_fits_15, eX7_fits_16, eX7_fits_19, eX7_fits_22, eX7_fits_23, eX7_fits_24, eX7_fits_25, eX7_fits_28, eX7_fits_29, eX7_fits_30, eX7_fits_32, eX7_fits_34, eX7_fits_35, eX7_fits_39, eX7_fits_41, eX7_fits_44, eX7_fits_45, eX7_fits_48, eX7_fits_49, eX7_fits_52, eX7_fits_54, eX7_fits_56, eX7_fits_57, eX7_fits_58, eX7_fits_59, eX7_fits_62, eX7_fits_64, eX7_fits_65, eX7_fits_68, eX7_fits_71, eX7_fits_72, eX7_fits_75, eX7_fits_77, eX7_fits_80, eX7_fits_82, eX7_fits_84, eX7_fits_87, eX7_fits_90, eX7_fits_93, eX7_fits_94, eX7_fits_97, eX7_fits_98, eX7_fits_101, eX7_fits_102, eX7_fits_105, eX7_fits_107, Nat.add_zero, Nat.reduceAdd, Nat.reduceLeDiff, Nat.zero_le, and_true, o_aload_0r, o_callS_3, o_callV_0, o_callV_1, o_const_e, o_getf_e, o_goto_e, o_iast_e, o_icmp_e, o_if_e, o_iinc_3, o_iinc_5, o_iload_1, o_iload_2, o_iload_3, o_iload_4, o_iload_5, o_iret_e, o_ist_3, o_ist_4, o_ist_5, o_ist_6, tl_n, tl_s, true_and, xnlv_i, xnlv_n, xnlv_r, xwt_0, xwt_f, xwt_i, xwt_l, xwt_r, hA.cls]
        refine d_lays hA (fun i hi => nF_out hi) (fun i hi => nF_out hi) ?_
        rw [show ((s.wkp (nF x r)).wnw (nF y r)).kp = nF x r from rfl, modP_nw h.1.lt]
        simp only [eX7_fits_0, eX7_fits_1, eX7_fits_2, eX7_fits_4, eX7_fits_7, eX7_fits_10, eX7_fits_12, eX7_fits_13, eX7_fits_14, eX7_fits_15, eX7_fits_16, eX7_fits_19, eX7_fits_22, eX7_fits_23, eX7_fits_24, eX7_fits_25, eX7_fits_28, eX7_fits_29, eX7_fits_30, eX7_fits_32, eX7_fits_34, eX7_fits_35, eX7_fits_39, eX7_fits_41, eX7_fits_44, eX7_fits_45, eX7_fits_48, eX7_fits_49, eX7_fits_52, eX7_fits_54, eX7_fits_56, eX7_fits_57, eX7_fits_58, eX7_fits_59, eX7_fits_62, eX7_fits_64, eX7_fits_65, eX7_fits_68, eX7_fits_71, eX7_fits_72, eX7_fits_75, eX7_fits_77, eX7_fits_80, eX7_fits_82, eX7_fits_84, eX7_fits_87, eX7_fits_90, eX7_fits_93, eX7_fits_94, eX7_fits_97, eX7_fits_98, eX7_fits_101, eX7_fits_102, eX7_fits_105, eX7_fits_107, Nat.add_zero, Nat.reduceAdd, Nat.reduceLeDiff, Nat.zero_le, and_true, o_aload_0r, o_callS_3, o_callV_0, o_callV_1, o_const_e, o_getf_e, o_goto_e, o_iast_e, o_icmp_e, o_if_e, o_iinc_3, o_iinc_5, o_iload_1, o_iload_2, o_iload_3, o_iload_4, o_iload_5, o_iret_e, o_ist_3, o_ist_4, o_ist_5, o_ist_6, tl_n, tl_s, true_and, xnlv_i, xnlv_n, xnlv_r, xwt_0, xwt_f, xwt_i, xwt_l, xwt_r, eq0_nI (a := w) (by omega)]
        refine ⟨fun g => ?_, fun g => ?_⟩
        · rw [if_neg g] at kk
          exact kk
        · rw [if_pos (Classical.not_not.mp g)] at kk
          exact kk
/-- happens(w, n) -/
theorem d_hap (h : MoL AH m s x r) (ok : x.ok) {w n : Nat} (hw : w ≤ 4) (hnn : n ≤ 99) {Q : Option Value → xH → Prop} (k : Q none (modP AH m (s.wnw (nF (x.ev w n) r)))) : XC MX7_happens [.ref m, .int (nI w), .int (nI n)] AH Q := by
  have hn := sLat.n36 ok
  unfold sLat.ev at k
  refine XC.ofR (L := [some (.ref m), some (.int (nI w)), some (.int (nI n)), none]) KX7_happens (by decide +kernel) (by first | decide | exact Nat.le_of_ble_eq_true rfl) rfl ?_
  rcases (show w = 0 ∨ w = 1 ∨ w = 2 ∨ w = 3 ∨ w = 4 by omega) with rfl | rfl | rfl | rfl | rfl <;> simp only at k
  · simp only [eX7_happens_0, eX7_happens_1, eX7_happens_2, eX7_happens_3, eX7_happens_32, eX7_happens_33, eX7_happens_34, eX7_happens_37, eX7_happens_38, eX7_happens_41, eX7_happens_42, eX7_happens_43, eX7_happens_46, eX7_happens_47, eX7_happens_50, eX7_happens_51, eX7_happens_52, eX7_happens_55, eX7_happens_58, eX7_happens_59, eX7_happens_62, eX7_happens_64, eX7_happens_65, eX7_happens_66, eX7_happens_67, eX7_happens_68, eX7_happens_71, eX7_happens_73, eX7_happens_74, eX7_happens_75, eX7_happens_76, eX7_happens_77, eX7_happens_78, eX7_happens_81, eX7_happens_82, eX7_happens_85, eX7_happens_86, eX7_happens_87, eX7_happens_88, eX7_happens_91, eX7_happens_92, eX7_happens_95, eX7_happens_97, eX7_happens_98, eX7_happens_99, Nat.add_zero, Nat.reduceAdd, Nat.reduceLeDiff, Nat.zero_le, and_true, o_aload_0r, o_callV_1, o_const_e, o_getf_e, o_goto_e, o_iald_e, o_iald_f, o_iast_e, o_if_e, o_ii_e, o_iload_1, o_iload_2, o_ist_3, o_sw_e, o_vret_e, tl_n, tl_s, true_and, xnlv_i, xnlv_n, xnlv_r, xsw_0, xsw_1, xwt_0, xwt_f, xwt_i, xwt_l, xwt_r, z_nI, n1, n2, n3, n4, n5, n6, n7, n8, n9, n10, n11, n12, eq_nI, Nat.reducePow, Nat.reduceLT, Nat.reduceEqDiff, reduceCtorEq, Nat.succ_ne_zero, Nat.one_ne_zero, eq_self, not_true_eq_false, not_false_eq_true, true_implies, false_implies, and_true, true_and, implies_true, forall_const, h.1.cls, h.1.g0, h.1.g1, h.1.g2, h.1.g3, h.1.g4, h.1.g5, h.1.g6, h.1.g7, h.1.g8, h.1.g9, h.1.g10, h.1.g11, h.1.g12, h.1.g13, h.1.g14, h.1.g15, h.1.g16, h.1.g17, h.1.g18, h.1.g19, h.i0, h.i1, h.i2, h.i3, h.i4, h.i5, h.i6, h.i7, h.i8, h.i9, h.i10, h.j0, h.j1, h.j2, h.j3, h.j4, h.j5, h.j6, h.j7, h.j8, h.j9, h.j10]
    refine d_many h ok (by omega) ?_
    simp only [eX7_happens_0, eX7_happens_1, eX7_happens_2, eX7_happens_3, eX7_happens_32, eX7_happens_33, eX7_happens_34, eX7_happens_37, eX7_happens_38, eX7_happens_41, eX7_happens_42, eX7_happens_43, eX7_happens_46, eX7_happens_47, eX7_happens_50, eX7_happens_51, eX7_happens_52, eX7_happens_55, eX7_happens_58, eX7_happens_59, eX7_happens_62, eX7_happens_64, eX7_happens_65, eX7_happens_66, eX7_happens_67, eX7_happens_68, eX7_happens_71, eX7_happens_73, eX7_happens_74, eX7_happens_75, eX7_happens_76, eX7_happens_77, eX7_happens_78, eX7_happens_81, eX7_happens_82, eX7_happens_85, eX7_happens_86, eX7_happens_87, eX7_happens_88, eX7_happens_91, eX7_happens_92, eX7_happens_95, eX7_happens_97, eX7_happens_98, eX7_happens_99, Nat.add_zero, Nat.reduceAdd, Nat.reduceLeDiff, Nat.zero_le, and_true, o_aload_0r, o_callV_1, o_const_e, o_getf_e, o_goto_e, o_iald_e, o_iald_f, o_iast_e, o_if_e, o_ii_e, o_iload_1, o_iload_2, o_ist_3, o_sw_e, o_vret_e, tl_n, tl_s, true_and, xnlv_i, xnlv_n, xnlv_r, xsw_0, xsw_1, xwt_0, xwt_f, xwt_i, xwt_l, xwt_r]
    exact k
  · simp only [eX7_happens_0, eX7_happens_1, eX7_happens_2, eX7_happens_3, eX7_happens_32, eX7_happens_33, eX7_happens_34, eX7_happens_37, eX7_happens_38, eX7_happens_41, eX7_happens_42, eX7_happens_43, eX7_happens_46, eX7_happens_47, eX7_happens_50, eX7_happens_51, eX7_happens_52, eX7_happens_55, eX7_happens_58, eX7_happens_59, eX7_happens_62, eX7_happens_64, eX7_happens_65, eX7_happens_66, eX7_happens_67, eX7_happens_68, eX7_happens_71, eX7_happens_73, eX7_happens_74, eX7_happens_75, eX7_happens_76, eX7_happens_77, eX7_happens_78, eX7_happens_81, eX7_happens_82, eX7_happens_85, eX7_happens_86, eX7_happens_87, eX7_happens_88, eX7_happens_91, eX7_happens_92, eX7_happens_95, eX7_happens_97, eX7_happens_98, eX7_happens_99, Nat.add_zero, Nat.reduceAdd, Nat.reduceLeDiff, Nat.zero_le, and_true, o_aload_0r, o_callV_1, o_const_e, o_getf_e, o_goto_e, o_iald_e, o_iald_f, o_iast_e, o_if_e, o_ii_e, o_iload_1, o_iload_2, o_ist_3, o_sw_e, o_vret_e, tl_n, tl_s, true_and, xnlv_i, xnlv_n, xnlv_r, xsw_0, xsw_1, xwt_0, xwt_f, xwt_i, xwt_l, xwt_r, z_nI, n1, n2, n3, n4, n5, n6, n7, n8, n9, n10, n11, n12, eq_nI, Nat.reducePow, Nat.reduceLT, Nat.reduceEqDiff, reduceCtorEq, Nat.succ_ne_zero, Nat.one_ne_zero, eq_self, not_true_eq_false, not_false_eq_true, true_implies, false_implies, and_true, true_and, implies_true, forall_const, h.1.cls, h.1.g0, h.1.g1, h.1.g2, h.1.g3, h.1.g4, h.1.g5, h.1.g6, h.1.g7, h.1.g8, h.1.g9, h.1.g10, h.1.g11, h.1.g12, h.1.g13, h.1.g14, h.1.g15, h.1.g16, h.1.g17, h.1.g18, h.1.g19, h.i0, h.i1, h.i2, h.i3, h.i4, h.i5, h.i6, h.i7, h.i8, h.i9, h.i10, h.j0, h.j1, h.j2, h.j3, h.j4, h.j5, h.j6, h.j7, h.j8, h.j9, h.j10]
    refine d_coolN h ok (by omega) ?_
    simp only [eX7_happens_0, eX7_happens_1, eX7_happens_2, eX7_happens_3, eX7_happens_32, eX7_happens_33, eX7_happens_34, eX7_happens_37, eX7_happens_38, eX7_happens_41, eX7_happens_42, eX7_happens_43, eX7_happens_46, eX7_happens_47, eX7_happens_50, eX7_happens_51, eX7_happens_52, eX7_happens_55, eX7_happens_58, eX7_happens_59, eX7_happens_62, eX7_happens_64, eX7_happens_65, eX7_happens_66, eX7_happens_67, eX7_happens_68, eX7_happens_71, eX7_happens_73, eX7_happens_74, eX7_happens_75, eX7_happens_76, eX7_happens_77, eX7_happens_78, eX7_happens_81, eX7_happens_82, eX7_happens_85, eX7_happens_86, eX7_happens_87, eX7_happens_88, eX7_happens_91, eX7_happens_92, eX7_happens_95, eX7_happens_97, eX7_happens_98, eX7_happens_99, Nat.add_zero, Nat.reduceAdd, Nat.reduceLeDiff, Nat.zero_le, and_true, o_aload_0r, o_callV_1, o_const_e, o_getf_e, o_goto_e, o_iald_e, o_iald_f, o_iast_e, o_if_e, o_ii_e, o_iload_1, o_iload_2, o_ist_3, o_sw_e, o_vret_e, tl_n, tl_s, true_and, xnlv_i, xnlv_n, xnlv_r, xsw_0, xsw_1, xwt_0, xwt_f, xwt_i, xwt_l, xwt_r]
    exact k
  · simp only [eX7_happens_0, eX7_happens_1, eX7_happens_2, eX7_happens_3, eX7_happens_32, eX7_happens_33, eX7_happens_34, eX7_happens_37, eX7_happens_38, eX7_happens_41, eX7_happens_42, eX7_happens_43, eX7_happens_46, eX7_happens_47, eX7_happens_50, eX7_happens_51, eX7_happens_52, eX7_happens_55, eX7_happens_58, eX7_happens_59, eX7_happens_62, eX7_happens_64, eX7_happens_65, eX7_happens_66, eX7_happens_67, eX7_happens_68, eX7_happens_71, eX7_happens_73, eX7_happens_74, eX7_happens_75, eX7_happens_76, eX7_happens_77, eX7_happens_78, eX7_happens_81, eX7_happens_82, eX7_happens_85, eX7_happens_86, eX7_happens_87, eX7_happens_88, eX7_happens_91, eX7_happens_92, eX7_happens_95, eX7_happens_97, eX7_happens_98, eX7_happens_99, Nat.add_zero, Nat.reduceAdd, Nat.reduceLeDiff, Nat.zero_le, and_true, o_aload_0r, o_callV_1, o_const_e, o_getf_e, o_goto_e, o_iald_e, o_iald_f, o_iast_e, o_if_e, o_ii_e, o_iload_1, o_iload_2, o_ist_3, o_sw_e, o_vret_e, tl_n, tl_s, true_and, xnlv_i, xnlv_n, xnlv_r, xsw_0, xsw_1, xwt_0, xwt_f, xwt_i, xwt_l, xwt_r, z_nI, n1, n2, n3, n4, n5, n6, n7, n8, n9, n10, n11, n12, eq_nI, Nat.reducePow, Nat.reduceLT, Nat.reduceEqDiff, reduceCtorEq, Nat.succ_ne_zero, Nat.one_ne_zero, eq_self, not_true_eq_false, not_false_eq_true, true_implies, false_implies, and_true, true_and, implies_true, forall_const, h.1.cls, h.1.g0, h.1.g1, h.1.g2, h.1.g3, h.1.g4, h.1.g5, h.1.g6, h.1.g7, h.1.g8, h.1.g9, h.1.g10, h.1.g11, h.1.g12, h.1.g13, h.1.g14, h.1.g15, h.1.g16, h.1.g17, h.1.g18, h.1.g19, h.i0, h.i1, h.i2, h.i3, h.i4, h.i5, h.i6, h.i7, h.i8, h.i9, h.i10, h.j0, h.j1, h.j2, h.j3, h.j4, h.j5, h.j6, h.j7, h.j8, h.j9, h.j10]
    refine d_isCell h ok ?_
    rw [ix_nI (by omega) (by omega)]
    by_cases hj : n < x.n
    · have hp := ok.2.1 n
      rw [if_pos hj] at k ⊢
      simp only [eX7_happens_0, eX7_happens_1, eX7_happens_2, eX7_happens_3, eX7_happens_32, eX7_happens_33, eX7_happens_34, eX7_happens_37, eX7_happens_38, eX7_happens_41, eX7_happens_42, eX7_happens_43, eX7_happens_46, eX7_happens_47, eX7_happens_50, eX7_happens_51, eX7_happens_52, eX7_happens_55, eX7_happens_58, eX7_happens_59, eX7_happens_62, eX7_happens_64, eX7_happens_65, eX7_happens_66, eX7_happens_67, eX7_happens_68, eX7_happens_71, eX7_happens_73, eX7_happens_74, eX7_happens_75, eX7_happens_76, eX7_happens_77, eX7_happens_78, eX7_happens_81, eX7_happens_82, eX7_happens_85, eX7_happens_86, eX7_happens_87, eX7_happens_88, eX7_happens_91, eX7_happens_92, eX7_happens_95, eX7_happens_97, eX7_happens_98, eX7_happens_99, Nat.add_zero, Nat.reduceAdd, Nat.reduceLeDiff, Nat.zero_le, and_true, o_aload_0r, o_callV_1, o_const_e, o_getf_e, o_goto_e, o_iald_e, o_iald_f, o_iast_e, o_if_e, o_ii_e, o_iload_1, o_iload_2, o_ist_3, o_sw_e, o_vret_e, tl_n, tl_s, true_and, xnlv_i, xnlv_n, xnlv_r, xsw_0, xsw_1, xwt_0, xwt_f, xwt_i, xwt_l, xwt_r, Option.isSome, not_true_eq_false, not_false_eq_true, true_implies, false_implies, and_true, true_and, implies_true, forall_const, ↓reduceIte, Bool.false_eq_true, i10, i10n, h.1.cls, h.1.g0, h.1.g1, h.1.g2, h.1.g3, h.1.g4, h.1.g5, h.1.g6, h.1.g7, h.1.g8, h.1.g9, h.1.g10, h.1.g11, h.1.g12, h.1.g13, h.1.g14, h.1.g15, h.1.g16, h.1.g17, h.1.g18, h.1.g19, h.i0, h.i1, h.i2, h.i3, h.i4, h.i5, h.i6, h.i7, h.i8, h.i9, h.i10, h.j0, h.j1, h.j2, h.j3, h.j4, h.j5, h.j6, h.j7, h.j8, h.j9, h.j10, n47, n1, nI_add, h.rp (c := n) (by omega), pk_sub (a := 1) (b := x.pn n) (by omega), h.wp (c := n) (by omega)]
      exact ⟨fun g => absurd g (by decide), fun _ => k⟩
    · rw [if_neg hj] at k ⊢
      rw [h.self] at k
      simp only [eX7_happens_0, eX7_happens_1, eX7_happens_2, eX7_happens_3, eX7_happens_32, eX7_happens_33, eX7_happens_34, eX7_happens_37, eX7_happens_38, eX7_happens_41, eX7_happens_42, eX7_happens_43, eX7_happens_46, eX7_happens_47, eX7_happens_50, eX7_happens_51, eX7_happens_52, eX7_happens_55, eX7_happens_58, eX7_happens_59, eX7_happens_62, eX7_happens_64, eX7_happens_65, eX7_happens_66, eX7_happens_67, eX7_happens_68, eX7_happens_71, eX7_happens_73, eX7_happens_74, eX7_happens_75, eX7_happens_76, eX7_happens_77, eX7_happens_78, eX7_happens_81, eX7_happens_82, eX7_happens_85, eX7_happens_86, eX7_happens_87, eX7_happens_88, eX7_happens_91, eX7_happens_92, eX7_happens_95, eX7_happens_97, eX7_happens_98, eX7_happens_99, Nat.add_zero, Nat.reduceAdd, Nat.reduceLeDiff, Nat.zero_le, and_true, o_aload_0r, o_callV_1, o_const_e, o_getf_e, o_goto_e, o_iald_e, o_iald_f, o_iast_e, o_if_e, o_ii_e, o_iload_1, o_iload_2, o_ist_3, o_sw_e, o_vret_e, tl_n, tl_s, true_and, xnlv_i, xnlv_n, xnlv_r, xsw_0, xsw_1, xwt_0, xwt_f, xwt_i, xwt_l, xwt_r, Option.isSome, not_true_eq_false, not_false_eq_true, true_implies, false_implies, and_true, true_and, implies_true, forall_const, ↓reduceIte, Bool.false_eq_true, i10, i10n]
      exact ⟨fun _ => k, fun g => absurd rfl g⟩
  · simp only [eX7_happens_0, eX7_happens_1, eX7_happens_2, eX7_happens_3, eX7_happens_32, eX7_happens_33, eX7_happens_34, eX7_happens_37, eX7_happens_38, eX7_happens_41, eX7_happens_42, eX7_happens_43, eX7_happens_46, eX7_happens_47, eX7_happens_50, eX7_happens_51, eX7_happens_52, eX7_happens_55, eX7_happens_58, eX7_happens_59, eX7_happens_62, eX7_happens_64, eX7_happens_65, eX7_happens_66, eX7_happens_67, eX7_happens_68, eX7_happens_71, eX7_happens_73, eX7_happens_74, eX7_happens_75, eX7_happens_76, eX7_happens_77, eX7_happens_78, eX7_happens_81, eX7_happens_82, eX7_happens_85, eX7_happens_86, eX7_happens_87, eX7_happens_88, eX7_happens_91, eX7_happens_92, eX7_happens_95, eX7_happens_97, eX7_happens_98, eX7_happens_99, Nat.add_zero, Nat.reduceAdd, Nat.reduceLeDiff, Nat.zero_le, and_true, o_aload_0r, o_callV_1, o_const_e, o_getf_e, o_goto_e, o_iald_e, o_iald_f, o_iast_e, o_if_e, o_ii_e, o_iload_1, o_iload_2, o_ist_3, o_sw_e, o_vret_e, tl_n, tl_s, true_and, xnlv_i, xnlv_n, xnlv_r, xsw_0, xsw_1, xwt_0, xwt_f, xwt_i, xwt_l, xwt_r, z_nI, n1, n2, n3, n4, n5, n6, n7, n8, n9, n10, n11, n12, eq_nI, Nat.reducePow, Nat.reduceLT, Nat.reduceEqDiff, reduceCtorEq, Nat.succ_ne_zero, Nat.one_ne_zero, eq_self, not_true_eq_false, not_false_eq_true, true_implies, false_implies, and_true, true_and, implies_true, forall_const, h.1.cls, h.1.g0, h.1.g1, h.1.g2, h.1.g3, h.1.g4, h.1.g5, h.1.g6, h.1.g7, h.1.g8, h.1.g9, h.1.g10, h.1.g11, h.1.g12, h.1.g13, h.1.g14, h.1.g15, h.1.g16, h.1.g17, h.1.g18, h.1.g19, h.i0, h.i1, h.i2, h.i3, h.i4, h.i5, h.i6, h.i7, h.i8, h.i9, h.i10, h.j0, h.j1, h.j2, h.j3, h.j4, h.j5, h.j6, h.j7, h.j8, h.j9, h.j10, h.wr (c := 2) (by decide), nF_u2]
    exact k
  · simp only [eX7_happens_0, eX7_happens_1, eX7_happens_2, eX7_happens_3, eX7_happens_32, eX7_happens_33, eX7_happens_34, eX7_happens_37, eX7_happens_38, eX7_happens_41, eX7_happens_42, eX7_happens_43, eX7_happens_46, eX7_happens_47, eX7_happens_50, eX7_happens_51, eX7_happens_52, eX7_happens_55, eX7_happens_58, eX7_happens_59, eX7_happens_62, eX7_happens_64, eX7_happens_65, eX7_happens_66, eX7_happens_67, eX7_happens_68, eX7_happens_71, eX7_happens_73, eX7_happens_74, eX7_happens_75, eX7_happens_76, eX7_happens_77, eX7_happens_78, eX7_happens_81, eX7_happens_82, eX7_happens_85, eX7_happens_86, eX7_happens_87, eX7_happens_88, eX7_happens_91, eX7_happens_92, eX7_happens_95, eX7_happens_97, eX7_happens_98, eX7_happens_99, Nat.add_zero, Nat.reduceAdd, Nat.reduceLeDiff, Nat.zero_le, and_true, o_aload_0r, o_callV_1, o_const_e, o_getf_e, o_goto_e, o_iald_e, o_iald_f, o_iast_e, o_if_e, o_ii_e, o_iload_1, o_iload_2, o_ist_3, o_sw_e, o_vret_e, tl_n, tl_s, true_and, xnlv_i, xnlv_n, xnlv_r, xsw_0, xsw_1, xwt_0, xwt_f, xwt_i, xwt_l, xwt_r, z_nI, n1, n2, n3, n4, n5, n6, n7, n8, n9, n10, n11, n12, eq_nI, Nat.reducePow, Nat.reduceLT, Nat.reduceEqDiff, reduceCtorEq, Nat.succ_ne_zero, Nat.one_ne_zero, eq_self, not_true_eq_false, not_false_eq_true, true_implies, false_implies, and_true, true_and, implies_true, forall_const, h.1.cls, h.1.g0, h.1.g1, h.1.g2, h.1.g3, h.1.g4, h.1.g5, h.1.g6, h.1.g7, h.1.g8, h.1.g9, h.1.g10, h.1.g11, h.1.g12, h.1.g13, h.1.g14, h.1.g15, h.1.g16, h.1.g17, h.1.g18, h.1.g19, h.i0, h.i1, h.i2, h.i3, h.i4, h.i5, h.i6, h.i7, h.i8, h.i9, h.i10, h.j0, h.j1, h.j2, h.j3, h.j4, h.j5, h.j6, h.j7, h.j8, h.j9, h.j10, h.wr (c := 7) (by decide), nF_u7]
    exact k
theorem k_after (h : MoL AH m s x r) (ok : x.ok) (hR : RwM p r) (hp : p.ok) {w1 : Int32} {Q : xQ} (k : XR TX7_after 62 [some (.ref m), some (.int w1), some (.int (nI p.E.2))] [] (modP AH m (s.wnw (nF (x.evN p.E.1 p.E.2) r))) (0, 0) Q) : ∀ (z i : Nat), i + z = p.E.2 →
    XR TX7_after 17 [some (.ref m), some (.int w1), some (.int (nI i))] [] (modP AH m (s.wnw (nF (x.evN p.E.1 i) r))) (0, 0) Q := by
  have hl := hp.2.1.1
  intro z
  induction z with
  | zero =>
    intro i hi
    have hA : MoL (modP AH m (s.wnw (nF (x.evN p.E.1 i) r))) m (s.wnw (nF (x.evN p.E.1 i) r)) (x.evN p.E.1 i) r := ⟨h.1.put _, rfl⟩
    rw [eX7_after_17]
    simp only [eX7_after_0, eX7_after_1, eX7_after_2, eX7_after_3, eX7_after_6, eX7_after_9, eX7_after_10, eX7_after_11, eX7_after_12, eX7_after_15, eX7_after_16, eX7_after_18, eX7_after_19, eX7_after_22, eX7_after_24, eX7_after_25, eX7_after_28, eX7_after_29, eX7_after_30, eX7_after_33, eX7_after_35, eX7_after_36, eX7_after_37, eX7_after_38, eX7_after_39, eX7_after_40, eX7_after_41, eX7_after_44, eX7_after_46, eX7_after_47, eX7_after_48, eX7_after_49, eX7_after_50, eX7_after_51, eX7_after_52, eX7_after_53, eX7_after_56, eX7_after_59, eX7_after_63, eX7_after_64, eX7_after_67, eX7_after_68, eX7_after_69, eX7_after_72, eX7_after_73, Nat.add_zero, Nat.reduceAdd, Nat.reduceLeDiff, Nat.zero_le, and_true, o_aload_0r, o_callS_3, o_callV_0, o_callV_1, o_callV_2, o_const_e, o_getf_e, o_goto_e, o_iald_e, o_iald_f, o_icmp_e, o_if_e, o_ii_e, o_iinc_2, o_iload_1, o_iload_2, o_iret_e, o_ist_2, tl_n, tl_s, true_and, xnlv_i, xnlv_n, xnlv_r, xwt_0, xwt_f, xwt_i, xwt_l, xwt_r, hA.1.cls, hA.1.g0, hA.1.g1, hA.1.g2, hA.1.g3, hA.1.g4, hA.1.g5, hA.1.g6, hA.1.g7, hA.1.g8, hA.1.g9, hA.1.g10, hA.1.g11, hA.1.g12, hA.1.g13, hA.1.g14, hA.1.g15, hA.1.g16, hA.1.g17, hA.1.g18, hA.1.g19, hA.i0, hA.i1, hA.i2, hA.i3, hA.i4, hA.i5, hA.i6, hA.i7, hA.i8, hA.i9, hA.i10, hA.j0, hA.j1, hA.j2, hA.j3, hA.j4, hA.j5, hA.j6, hA.j7, hA.j8, hA.j9, hA.j10, n9, hA.1.cls, hA.1.g0, hA.1.g1, hA.1.g2, hA.1.g3, hA.1.g4, hA.1.g5, hA.1.g6, hA.1.g7, hA.1.g8, hA.1.g9, hA.1.g10, hA.1.g11, hA.1.g12, hA.1.g13, hA.1.g14, hA.1.g15, hA.1.g16, hA.1.g17, hA.1.g18, hA.1.g19, hA.i0, hA.i1, hA.i2, hA.i3, hA.i4, hA.i5, hA.i6, hA.i7, hA.i8, hA.i9, hA.i10, hA.j0, hA.j1, hA.j2, hA.j3, hA.j4, hA.j5, hA.j6, hA.j7, hA.j8, hA.j9, hA.j10, hR.2.1, le_nI (a := p.E.2) (b := i) (by omega) (by omega)]
    refine ⟨fun _ => ?_, fun g => by omega⟩
    have e : i = p.E.2 := by omega
    rw [e]
    exact k
  | succ z ih =>
    intro i hi
    have hA : MoL (modP AH m (s.wnw (nF (x.evN p.E.1 i) r))) m (s.wnw (nF (x.evN p.E.1 i) r)) (x.evN p.E.1 i) r := ⟨h.1.put _, rfl⟩
    have e := hR.2.2.2.2.1 i (by omega)
    have b := hp.2.1.2 i (by omega)
    have oki := evN_ok ok hp.2.1 i (by omega)
    rw [eX7_after_17]
    simp only [eX7_after_0, eX7_after_1, eX7_after_2, eX7_after_3, eX7_after_6, eX7_after_9, eX7_after_10, eX7_after_11, eX7_after_12, eX7_after_15, eX7_after_16, eX7_after_18, eX7_after_19, eX7_after_22, eX7_after_24, eX7_after_25, eX7_after_28, eX7_after_29, eX7_after_30, eX7_after_33, eX7_after_35, eX7_after_36, eX7_after_37, eX7_after_38, eX7_after_39, eX7_after_40, eX7_after_41, eX7_after_44, eX7_after_46, eX7_after_47, eX7_after_48, eX7_after_49, eX7_after_50, eX7_after_51, eX7_after_52, eX7_after_53, eX7_after_56, eX7_after_59, eX7_after_63, eX7_after_64, eX7_after_67, eX7_after_68, eX7_after_69, eX7_after_72, eX7_after_73, Nat.add_zero, Nat.reduceAdd, Nat.reduceLeDiff, Nat.zero_le, and_true, o_aload_0r, o_callS_3, o_callV_0, o_callV_1, o_callV_2, o_const_e, o_getf_e, o_goto_e, o_iald_e, o_iald_f, o_icmp_e, o_if_e, o_ii_e, o_iinc_2, o_iload_1, o_iload_2, o_iret_e, o_ist_2, tl_n, tl_s, true_and, xnlv_i, xnlv_n, xnlv_r, xwt_0, xwt_f, xwt_i, xwt_l, xwt_r, hA.1.cls, hA.1.g0, hA.1.g1, hA.1.g2, hA.1.g3, hA.1.g4, hA.1.g5, hA.1.g6, hA.1.g7, hA.1.g8, hA.1.g9, hA.1.g10, hA.1.g11, hA.1.g12, hA.1.g13, hA.1.g14, hA.1.g15, hA.1.g16, hA.1.g17, hA.1.g18, hA.1.g19, hA.i0, hA.i1, hA.i2, hA.i3, hA.i4, hA.i5, hA.i6, hA.i7, hA.i8, hA.i9, hA.i10, hA.j0, hA.j1, hA.j2, hA.j3, hA.j4, hA.j5, hA.j6, hA.j7, hA.j8, hA.j9, hA.j10, n9, hA.1.cls, hA.1.g0, hA.1.g1, hA.1.g2, hA.1.g3, hA.1.g4, hA.1.g5, hA.1.g6, hA.1.g7, hA.1.g8, hA.1.g9, hA.1.g10, hA.1.g11, hA.1.g12, hA.1.g13, hA.1.g14, hA.1.g15, hA.1.g16, hA.1.g17, hA.1.g18, hA.1.g19, hA.i0, hA.i1, hA.i2, hA.i3, hA.i4, hA.i5, hA.i6, hA.i7, hA.i8, hA.i9, hA.i10, hA.j0, hA.j1, hA.j2, hA.j3, hA.j4, hA.j5, hA.j6, hA.j7, hA.j8, hA.j9, hA.j10, hR.2.1, le_nI (a := p.E.2) (b := i) (by omega) (by omega), n89, n2, pk_mul, nI_add, n1]
    rw [show 89 + 2 * i + 1 = 89 + (2 * i + 1) from Nat.add_assoc _ _ _, hA.re (c := 2 * i) (by omega), hA.re (c := 2 * i + 1) (by omega), e.1, e.2]
    refine ⟨fun g => by omega, fun _ => d_hap hA oki b.1 b.2 ?_⟩
    rw [modP_nw h.1.lt]
    exact ih (i + 1) (by omega)
/-- after(what) -/
theorem d_after (h : MoL AH m s x r) (ok : x.ok) (hz : s.kz) (hR : RwM p r) (hp : p.ok) {w : Int32} {Q : Option Value → xH → Prop} (k : ∀ s', s'.pq s → Q (some (.int (x.aAft p.E w))) (modP AH m s')) : XC MX7_after [.ref m, .int w] AH Q := by
  have k0 := k s (sMod.pq.rf s)
  rw [modP_self h.1] at k0
  unfold sLat.aAft at k k0
  refine XC.ofR (L := [some (.ref m), some (.int w), none]) KX7_after (by decide +kernel) (by first | decide | exact Nat.le_of_ble_eq_true rfl) rfl ?_
  simp only [eX7_after_0, eX7_after_1, eX7_after_2, eX7_after_3, eX7_after_6, eX7_after_9, eX7_after_10, eX7_after_11, eX7_after_12, eX7_after_15, eX7_after_16, eX7_after_18, eX7_after_19, eX7_after_22, eX7_after_24, eX7_after_25, eX7_after_28, eX7_after_29, eX7_after_30, eX7_after_33, eX7_after_35, eX7_after_36, eX7_after_37, eX7_after_38, eX7_after_39, eX7_after_40, eX7_after_41, eX7_after_44, eX7_after_46, eX7_after_47, eX7_after_48, eX7_after_49, eX7_after_50, eX7_after_51, eX7_after_52, eX7_after_53, eX7_after_56, eX7_after_59, eX7_after_62, eX7_after_63, eX7_after_64, eX7_after_67, eX7_after_68, eX7_after_69, eX7_after_72, eX7_after_73, Nat.add_zero, Nat.reduceAdd, Nat.reduceLeDiff, Nat.zero_le, and_true, o_aload_0r, o_callS_3, o_callV_0, o_callV_1, o_callV_2, o_const_e, o_getf_e, o_goto_e, o_iald_e, o_iald_f, o_icmp_e, o_if_e, o_ii_e, o_iinc_2, o_iload_1, o_iload_2, o_iret_e, o_ist_2, tl_n, tl_s, true_and, xnlv_i, xnlv_n, xnlv_r, xwt_0, xwt_f, xwt_i, xwt_l, xwt_r]
  refine d_ix 3 (by decide) (by decide) ?_
  cases hc : ix 3 w with
  | none =>
    simp only [hc] at k0
    simp only [eX7_after_0, eX7_after_1, eX7_after_2, eX7_after_3, eX7_after_6, eX7_after_9, eX7_after_10, eX7_after_11, eX7_after_12, eX7_after_15, eX7_after_16, eX7_after_18, eX7_after_19, eX7_after_22, eX7_after_24, eX7_after_25, eX7_after_28, eX7_after_29, eX7_after_30, eX7_after_33, eX7_after_35, eX7_after_36, eX7_after_37, eX7_after_38, eX7_after_39, eX7_after_40, eX7_after_41, eX7_after_44, eX7_after_46, eX7_after_47, eX7_after_48, eX7_after_49, eX7_after_50, eX7_after_51, eX7_after_52, eX7_after_53, eX7_after_56, eX7_after_59, eX7_after_62, eX7_after_63, eX7_after_64, eX7_after_67, eX7_after_68, eX7_after_69, eX7_after_72, eX7_after_73, Nat.add_zero, Nat.reduceAdd, Nat.reduceLeDiff, Nat.zero_le, and_true, o_aload_0r, o_callS_3, o_callV_0, o_callV_1, o_callV_2, o_const_e, o_getf_e, o_goto_e, o_iald_e, o_iald_f, o_icmp_e, o_if_e, o_ii_e, o_iinc_2, o_iload_1, o_iload_2, o_iret_e, o_ist_2, tl_n, tl_s, true_and, xnlv_i, xnlv_n, xnlv_r, xwt_0, xwt_f, xwt_i, xwt_l, xwt_r, Option.isSome, not_true_eq_false, not_false_eq_true, true_implies, false_implies, and_true, true_and, implies_true, forall_const, ↓reduceIte, Bool.false_eq_true, i10, i10n]
    exact k0
  | some w' =>
    simp only [hc] at k
    simp only [eX7_after_0, eX7_after_1, eX7_after_2, eX7_after_3, eX7_after_6, eX7_after_9, eX7_after_10, eX7_after_11, eX7_after_12, eX7_after_15, eX7_after_16, eX7_after_18, eX7_after_19, eX7_after_22, eX7_after_24, eX7_after_25, eX7_after_28, eX7_after_29, eX7_after_30, eX7_after_33, eX7_after_35, eX7_after_36, eX7_after_37, eX7_after_38, eX7_after_39, eX7_after_40, eX7_after_41, eX7_after_44, eX7_after_46, eX7_after_47, eX7_after_48, eX7_after_49, eX7_after_50, eX7_after_51, eX7_after_52, eX7_after_53, eX7_after_56, eX7_after_59, eX7_after_62, eX7_after_63, eX7_after_64, eX7_after_67, eX7_after_68, eX7_after_69, eX7_after_72, eX7_after_73, Nat.add_zero, Nat.reduceAdd, Nat.reduceLeDiff, Nat.zero_le, and_true, o_aload_0r, o_callS_3, o_callV_0, o_callV_1, o_callV_2, o_const_e, o_getf_e, o_goto_e, o_iald_e, o_iald_f, o_icmp_e, o_if_e, o_ii_e, o_iinc_2, o_iload_1, o_iload_2, o_iret_e, o_ist_2, tl_n, tl_s, true_and, xnlv_i, xnlv_n, xnlv_r, xwt_0, xwt_f, xwt_i, xwt_l, xwt_r, Option.isSome, not_true_eq_false, not_false_eq_true, true_implies, false_implies, and_true, true_and, implies_true, forall_const, ↓reduceIte, Bool.false_eq_true, i10, i10n, h.1.cls, h.1.g0, h.1.g1, h.1.g2, h.1.g3, h.1.g4, h.1.g5, h.1.g6, h.1.g7, h.1.g8, h.1.g9, h.1.g10, h.1.g11, h.1.g12, h.1.g13, h.1.g14, h.1.g15, h.1.g16, h.1.g17, h.1.g18, h.1.g19, h.i0, h.i1, h.i2, h.i3, h.i4, h.i5, h.i6, h.i7, h.i8, h.i9, h.i10, h.j0, h.j1, h.j2, h.j3, h.j4, h.j5, h.j6, h.j7, h.j8, h.j9, h.j10]
    refine d_keeps h hz ?_
    simp only [eX7_after_0, eX7_after_1, eX7_after_2, eX7_after_3, eX7_after_6, eX7_after_9, eX7_after_10, eX7_after_11, eX7_after_12, eX7_after_15, eX7_after_16, eX7_after_18, eX7_after_19, eX7_after_22, eX7_after_24, eX7_after_25, eX7_after_28, eX7_after_29, eX7_after_30, eX7_after_33, eX7_after_35, eX7_after_36, eX7_after_37, eX7_after_38, eX7_after_39, eX7_after_40, eX7_after_41, eX7_after_44, eX7_after_46, eX7_after_47, eX7_after_48, eX7_after_49, eX7_after_50, eX7_after_51, eX7_after_52, eX7_after_53, eX7_after_56, eX7_after_59, eX7_after_62, eX7_after_63, eX7_after_64, eX7_after_67, eX7_after_68, eX7_after_69, eX7_after_72, eX7_after_73, Nat.add_zero, Nat.reduceAdd, Nat.reduceLeDiff, Nat.zero_le, and_true, o_aload_0r, o_callS_3, o_callV_0, o_callV_1, o_callV_2, o_const_e, o_getf_e, o_goto_e, o_iald_e, o_iald_f, o_icmp_e, o_if_e, o_ii_e, o_iinc_2, o_iload_1, o_iload_2, o_iret_e, o_ist_2, tl_n, tl_s, true_and, xnlv_i, xnlv_n, xnlv_r, xwt_0, xwt_f, xwt_i, xwt_l, xwt_r]
    have e1 : (s.wkp (nF x r)).nw = nF x r := h.2
    have hK : MoL (modP AH m (s.wkp (nF x r))) m (s.wkp (nF x r)) x r := ⟨h.1.put _, e1⟩
    have := k_after hK ok hR hp (w1 := w) (Q := fun v AH' _ => Q v AH') ?_ p.E.2 0 (by omega)
    · rw [show (s.wkp (nF x r)).wnw (nF (x.evN p.E.1 0) r) = s.wkp (nF x r) by show (s.wkp (nF x r)).wnw (nF x r) = _; rw [← e1]; rfl, modP_modP h.1.lt] at this
      exact this
    · rw [modP_modP h.1.lt]
      have oky := evN_ok ok hp.2.1 p.E.2 (Nat.le_refl _)
      generalize x.evN p.E.1 p.E.2 = y at *
      have hB : MoL (modP AH m ((s.wkp (nF x r)).wnw (nF y r))) m ((s.wkp (nF x r)).wnw (nF y r)) y r := ⟨h.1.put _, rfl⟩
      simp only [eX7_after_0, eX7_after_1, eX7_after_2, eX7_after_3, eX7_after_6, eX7_after_9, eX7_after_10, eX7_after_11, eX7_after_12, eX7_after_15, eX7_after_16, eX7_after_18, eX7_after_19, eX7_after_22, eX7_after_24, eX7_after_25, eX7_after_28, eX7_after_29, eX7_after_30, eX7_after_33, eX7_after_35, eX7_after_36, eX7_after_37, eX7_after_38, eX7_after_39, eX7_after_40, eX7_after_41, eX7_after_44, eX7_after_46, eX7_after_47, eX7_after_48, eX7_after_49, eX7_after_50, eX7_after_51, eX7_after_52, eX7_after_53, eX7_after_56, eX7_after_59, eX7_after_62, eX7_after_63, eX7_after_64, eX7_after_67, eX7_after_68, eX7_after_69, eX7_after_72, eX7_after_73, Nat.add_zero, Nat.reduceAdd, Nat.reduceLeDiff, Nat.zero_le, and_true, o_aload_0r, o_callS_3, o_callV_0, o_callV_1, o_callV_2, o_const_e, o_getf_e, o_goto_e, o_iald_e, o_iald_f, o_icmp_e, o_if_e, o_ii_e, o_iinc_2, o_iload_1, o_iload_2, o_iret_e, o_ist_2, tl_n, tl_s, true_and, xnlv_i, xnlv_n, xnlv_r, xwt_0, xwt_f, xwt_i, xwt_l, xwt_r, hB.1.cls, hB.1.g0, hB.1.g1, hB.1.g2, hB.1.g3, hB.1.g4, hB.1.g5, hB.1.g6, hB.1.g7, hB.1.g8, hB.1.g9, hB.1.g10, hB.1.g11, hB.1.g12, hB.1.g13, hB.1.g14, hB.1.g15, hB.1.g16, hB.1.g17, hB.1.g18, hB.1.g19, hB.i0, hB.i1, hB.i2, hB.i3, hB.i4, hB.i5, hB.i6, hB.i7, hB.i8, hB.i9, hB.i10, hB.j0, hB.j1, hB.j2, hB.j3, hB.j4, hB.j5, hB.j6, hB.j7, hB.j8, hB.j9, hB.j10]
      refine d_told hB oky (fun s1 hs1 => ?_)
      rw [modP_modP h.1.lt]
      have hD : ModAt (modP AH m s1) m s1 := h.1.put _
      have ek : s1.kp = nF x r := hs1.2.1.1
      have en : s1.nw = nF y r := hs1.1
      simp only [eX7_after_0, eX7_after_1, eX7_after_2, eX7_after_3, eX7_after_6, eX7_after_9, eX7_after_10, eX7_after_11, eX7_after_12, eX7_after_15, eX7_after_16, eX7_after_18, eX7_after_19, eX7_after_22, eX7_after_24, eX7_after_25, eX7_after_28, eX7_after_29, eX7_after_30, eX7_after_33, eX7_after_35, eX7_after_36, eX7_after_37, eX7_after_38, eX7_after_39, eX7_after_40, eX7_after_41, eX7_after_44, eX7_after_46, eX7_after_47, eX7_after_48, eX7_after_49, eX7_after_50, eX7_after_51, eX7_after_52, eX7_after_53, eX7_after_56, eX7_after_59, eX7_after_62, eX7_after_63, eX7_after_64, eX7_after_67, eX7_after_68, eX7_after_69, eX7_after_72, eX7_after_73, Nat.add_zero, Nat.reduceAdd, Nat.reduceLeDiff, Nat.zero_le, and_true, o_aload_0r, o_callS_3, o_callV_0, o_callV_1, o_callV_2, o_const_e, o_getf_e, o_goto_e, o_iald_e, o_iald_f, o_icmp_e, o_if_e, o_ii_e, o_iinc_2, o_iload_1, o_iload_2, o_iret_e, o_ist_2, tl_n, tl_s, true_and, xnlv_i, xnlv_n, xnlv_r, xwt_0, xwt_f, xwt_i, xwt_l, xwt_r, hD.cls]
      refine d_lays hD (fun i hi => by rw [ek]; exact nF_out hi) (fun i hi => by rw [en]; exact nF_out hi) ?_
      rw [modP_modP h.1.lt]
      have kk := k (s1.wnw s1.kp) ⟨ek.trans h.2.symm, hs1.2.2.1, hs1.2.2.2.1, hs1.2.2.2.2.1, hs1.2.2.2.2.2.1, hs1.2.2.2.2.2.2.1, hs1.2.2.2.2.2.2.2.1, hs1.2.2.2.2.2.2.2.2, fun _ i hi => by show s1.kp i = 0; rw [ek]; exact nF_out hi⟩
      simp only [eX7_after_0, eX7_after_1, eX7_after_2, eX7_after_3, eX7_after_6, eX7_after_9, eX7_after_10, eX7_after_11, eX7_after_12, eX7_after_15, eX7_after_16, eX7_after_18, eX7_after_19, eX7_after_22, eX7_after_24, eX7_after_25, eX7_after_28, eX7_after_29, eX7_after_30, eX7_after_33, eX7_after_35, eX7_after_36, eX7_after_37, eX7_after_38, eX7_after_39, eX7_after_40, eX7_after_41, eX7_after_44, eX7_after_46, eX7_after_47, eX7_after_48, eX7_after_49, eX7_after_50, eX7_after_51, eX7_after_52, eX7_after_53, eX7_after_56, eX7_after_59, eX7_after_62, eX7_after_63, eX7_after_64, eX7_after_67, eX7_after_68, eX7_after_69, eX7_after_72, eX7_after_73, Nat.add_zero, Nat.reduceAdd, Nat.reduceLeDiff, Nat.zero_le, and_true, o_aload_0r, o_callS_3, o_callV_0, o_callV_1, o_callV_2, o_const_e, o_getf_e, o_goto_e, o_iald_e, o_iald_f, o_icmp_e, o_if_e, o_ii_e, o_iinc_2, o_iload_1, o_iload_2, o_iret_e, o_ist_2, tl_n, tl_s, true_and, xnlv_i, xnlv_n, xnlv_r, xwt_0, xwt_f, xwt_i, xwt_l, xwt_r]
      exact kk
end ROWS
