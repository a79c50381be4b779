/-! groups of cells, and what stays -/
def Fr (AH AH' : xH) (lo hi : Nat) : Prop := AH'.length = AH.length ∧ ∀ j, (j < lo ∨ hi ≤ j) → AH'[j]? = AH[j]?
theorem Fr.rf (AH : xH) (lo hi : Nat) : Fr AH AH lo hi := ⟨rfl, fun _ _ => rfl⟩
theorem Fr.tr {A B C : xH} {lo hi lo2 hi2 lo3 hi3 : Nat} (h : Fr A B lo hi) (h2 : Fr B C lo2 hi2) (g1 : lo3 ≤ lo) (g2 : lo3 ≤ lo2) (g3 : hi ≤ hi3) (g4 : hi2 ≤ hi3) : Fr A C lo3 hi3 := ⟨h2.1.trans h.1, fun j hj => (h2.2 j (by omega)).trans (h.2 j (by omega))⟩
theorem Fr.wd {A B : xH} {lo hi lo3 hi3 : Nat} (h : Fr A B lo hi) (g1 : lo3 ≤ lo) (g3 : hi ≤ hi3) : Fr A B lo3 hi3 := ⟨h.1, fun j hj => h.2 j (by omega)⟩
theorem Fr.set {A : xH} {i : Nat} {e : xE} : Fr A (A.set i e) i (i + 1) := ⟨List.length_set .., fun j hj => by rw [List.getElem?_set, if_neg (by omega)]⟩
theorem Fr.blk {A : xH} {b n : Nat} {cs : List xE} (hl : b + cs.length ≤ A.length) (hn : cs.length = n) : Fr A (blkP A b cs) b (b + n) := ⟨blk_len hl, fun j hj => by rw [blk_get hl, if_neg (by omega)]⟩
theorem BlkAt.fr2 {A B : xH} {lo hi b : Nat} {cs : List xE} (h : BlkAt A b cs) (f : Fr A B lo hi) (sep : b + cs.length ≤ lo ∨ hi ≤ b) : BlkAt B b cs := fun i e hi => by
  have := (List.getElem?_eq_some_iff.mp hi).1
  rw [f.2 _ (by omega)]
  exact h i e hi
theorem LatAt.fr2 {A B : xH} {lo hi b : Nat} {x : sLat} {lk pr : Nat → Int32} (h : LatAt A b x lk pr) (f : Fr A B lo hi) (sep : b + 5 ≤ lo ∨ hi ≤ b) : LatAt B b x lk pr :=
  ⟨by rw [f.2 _ (by omega)]; exact h.1, by rw [f.2 _ (by omega)]; exact h.2.1, by rw [f.2 _ (by omega)]; exact h.2.2.1, by rw [f.2 _ (by omega)]; exact h.2.2.2.1, by rw [f.2 _ (by omega)]; exact h.2.2.2.2⟩
theorem LatAt.F {A : xH} {b : Nat} {x y : sLat} {lk pr lk2 pr2 : Nat → Int32} (h : LatAt A b x lk pr) : Fr A (latP A b y lk2 pr2) b (b + 5) := ⟨latP_len, fun j hj => h.out (by omega)⟩
theorem GraAt.F {A : xH} {g : Nat} {s s2 : sGra} (h : GraAt A g s) : Fr A (graP A g s2) g (g + 6) := Fr.blk h.lt rfl
/-! a lattice -/
def LatG (A : xH) (b : Nat) (x : sLat) : Prop := ∃ lk pr, LatAt A b x lk pr ∧ LkOK x lk ∧ PrOK x pr
theorem LatG.fr {A B : xH} {lo hi b : Nat} {x : sLat} (h : LatG A b x) (f : Fr A B lo hi) (sep : b + 5 ≤ lo ∨ hi ≤ b) : LatG B b x := by
  obtain ⟨lk, pr, h1, h2⟩ := h
  exact ⟨lk, pr, h1.fr2 f sep, h2⟩
theorem LatAt.G {A : xH} {b : Nat} {x y : sLat} {lk pr lk2 pr2 : Nat → Int32} (h : LatAt A b x lk pr) (hk : LkOK y lk2) (hp : PrOK y pr2) : LatG (latP A b y lk2 pr2) b y := ⟨lk2, pr2, h.put y lk2 pr2, hk, hp⟩
def GraG (A : xH) (g : Nat) : Prop := ∃ s, GraAt A g s
theorem GraG.fr {A B : xH} {lo hi b : Nat} (h : GraG A b) (f : Fr A B lo hi) (sep : b + 6 ≤ lo ∨ hi ≤ b) : GraG B b := by
  obtain ⟨s, h1⟩ := h
  exact ⟨s, BlkAt.fr2 h1 f sep⟩
/-! rows of two numbers -/
def rowC (b cap : Nat) (f g : Nat → Int32) (n : Nat) : List xE := [.inr (2, [.ref (b + 1), .ref (b + 2), .int (nI n)]), cI cap f, cI cap g]
def RowAt (A : xH) (b cap : Nat) (f g : Nat → Int32) (n : Nat) : Prop := BlkAt A b (rowC b cap f g n)
def rowP (A : xH) (b cap : Nat) (f g : Nat → Int32) (n : Nat) : xH := blkP A b (rowC b cap f g n)
def RowR (p : sPr) (f g : Nat → Int32) : Prop := ∀ i, i < p.2 → f i = nI (p.1 i).1 ∧ g i = nI (p.1 i).2
def RowG (A : xH) (b cap : Nat) (p : sPr) : Prop := ∃ f g, RowAt A b cap f g p.2 ∧ RowR p f g
theorem RowG.fr {A B : xH} {lo hi b cap : Nat} {p : sPr} (h : RowG A b cap p) (f : Fr A B lo hi) (sep : b + 3 ≤ lo ∨ hi ≤ b) : RowG B b cap p := by
  obtain ⟨s, g, h1, h2⟩ := h
  exact ⟨s, g, BlkAt.fr2 h1 f sep, h2⟩
section ROW
variable {AH : xH} {b cap : Nat} {f g : Nat → Int32} {n : Nat} {p : sPr}
theorem RowAt.lt (h : RowAt AH b cap f g n) : b + 3 ≤ AH.length := BlkAt.len h (by show 0 < 3; decide)
theorem RowAt.put (h : RowAt AH b cap f g n) (f2 g2 : Nat → Int32) (n2 : Nat) : RowAt (rowP AH b cap f2 g2 n2) b cap f2 g2 n2 := BlkAt.put h.lt
theorem RowAt.F (h : RowAt AH b cap f g n) {f2 g2 : Nat → Int32} {n2 : Nat} : Fr AH (rowP AH b cap f2 g2 n2) b (b + 3) := Fr.blk h.lt rfl
theorem rowP_self (h : RowAt AH b cap f g n) : rowP AH b cap f g n = AH := blk_self h (by show 0 < 3; decide)
theorem rowP_rowP (hl : b + 3 ≤ AH.length) {f2 g2 : Nat → Int32} {n2 : Nat} : rowP (rowP AH b cap f g n) b cap f2 g2 n2 = rowP AH b cap f2 g2 n2 := blk_blk hl rfl
theorem RowAt.cls (h : RowAt AH b cap f g n) : xcls AH b 2 = True := xcls_of (h 0 _ rfl)
theorem RowAt.g0 (h : RowAt AH b cap f g n) {K : Value → Prop} : xgf AH b 2 0 K = K (.ref (b + 1)) := xgf_of (h 0 _ rfl) rfl
theorem RowAt.g1 (h : RowAt AH b cap f g n) {K : Value → Prop} : xgf AH b 2 1 K = K (.ref (b + 2)) := xgf_of (h 0 _ rfl) rfl
theorem RowAt.g2 (h : RowAt AH b cap f g n) {K : Value → Prop} : xgf AH b 2 2 K = K (.int (nI n)) := xgf_of (h 0 _ rfl) rfl
theorem RowAt.r1 (h : RowAt AH b cap f g n) {c : Nat} (hc : c < cap) (hm : cap < 2 ^ 31) {K : Int32 → Prop} : xald AH (b + 1) (nI c) K = K (f c) := xald_of (h 1 _ rfl) hc hm
theorem RowAt.r2 (h : RowAt AH b cap f g n) {c : Nat} (hc : c < cap) (hm : cap < 2 ^ 31) {K : Int32 → Prop} : xald AH (b + 2) (nI c) K = K (g c) := xald_of (h 2 _ rfl) hc hm
theorem RowAt.w1 (h : RowAt AH b cap f g n) {c : Nat} {v : Int32} (hc : c < cap) (hm : cap < 2 ^ 31) {K : xH → Prop} : xast AH (b + 1) (nI c) v K = K (rowP AH b cap (upd f c v) g n) := by
  rw [xast_of (h 1 _ rfl) hc hm]
  exact congrArg K (blk_set h (by show 1 < 3; decide))
theorem RowAt.w2 (h : RowAt AH b cap f g n) {c : Nat} {v : Int32} (hc : c < cap) (hm : cap < 2 ^ 31) {K : xH → Prop} : xast AH (b + 2) (nI c) v K = K (rowP AH b cap f (upd g c v) n) := by
  rw [xast_of (h 2 _ rfl) hc hm]
  exact congrArg K (blk_set h (by show 2 < 3; decide))
theorem RowAt.a1 (h : RowAt AH b cap f g n) {f2 : Nat → Int32} : AH.set (b + 1) (cI cap f2) = rowP AH b cap f2 g n := blk_set h (by show 1 < 3; decide)
theorem RowAt.a2 (h : RowAt AH b cap f g n) {g2 : Nat → Int32} : AH.set (b + 2) (cI cap g2) = rowP AH b cap f g2 n := blk_set h (by show 2 < 3; decide)
theorem RowAt.p2 (h : RowAt AH b cap f g n) {v : Nat} {K : xH → Prop} : xpf AH b 2 2 (.int (nI v)) K = K (rowP AH b cap f g v) := by
  rw [xpf_of (a := b) (fs := _) (h 0 _ rfl) (by show 2 < 3; decide)]
  exact congrArg K (blk_set (i := 0) h (by show 0 < 3; decide))
theorem RowAt.l1 (h : RowAt AH b cap f g n) {K : Int32 → Prop} : xalen AH (b + 1) K = K (nI cap) := xalen_of (h 1 _ rfl)
/-- Rows.append(c, v) -/
theorem c_append (h : RowAt AH b cap f g p.2) (hR : RowR p f g) (hn : p.2 ≤ cap) (hm : cap < 1000) {c v : Nat} {Q : Option Value → xH → Prop} (k : ∀ f' g', RowR (pu p cap (c, v)).2 f' g' → Q (some (.int (pu p cap (c, v)).1)) (rowP AH b cap f' g' (pu p cap (c, v)).2.2)) : XC MX2_append [.ref b, .int (nI c), .int (nI v)] AH Q := by
  unfold pu at k
  refine XC.ofR (L := [some (.ref b), some (.int (nI c)), some (.int (nI v))]) KX2_append (by decide +kernel) (by first | decide | exact Nat.le_of_ble_eq_true rfl) rfl ?_
  by_cases e : p.2 = cap
  · rw [if_pos e] at k
    have eF : (p.2 < cap) = False := eq_false (by omega)
    have := k f g hR
    rw [rowP_self h] at this
    simp only [eX2_append_0, eX2_append_1, eX2_append_4, eX2_append_5, eX2_append_8, eX2_append_9, eX2_append_12, eX2_append_14, eX2_append_15, eX2_append_16, eX2_append_19, eX2_append_20, eX2_append_23, eX2_append_24, eX2_append_25, eX2_append_26, eX2_append_29, eX2_append_30, eX2_append_33, eX2_append_34, eX2_append_35, eX2_append_36, eX2_append_37, eX2_append_40, eX2_append_41, eX2_append_42, eX2_append_45, eX2_append_46, eX2_append_49, o_alen_e, o_aload_0r, o_const_e, o_dup_e, o_getf_e, o_iast_e, o_icmp_e, o_ii_e, o_iload_1, o_iload_2, o_iret_e, o_putf_e, true_and, xc1_i, xc1_r, xfit_a, xfit_i, xfit_l, xfit_o, h.g2, h.g0, h.l1, lt_nI (a := p.2) (b := cap) (by omega) (by omega), eF, not_true_eq_false, not_false_eq_true, true_implies, false_implies, and_true, true_and, implies_true, forall_const, ↓reduceIte, Bool.false_eq_true, i10, i10n]
    exact this
  · rw [if_neg e] at k
    have eF : (p.2 < cap) = True := eq_true (by omega)
    have h1 := h.put (upd f p.2 (nI c)) g p.2
    have h2 := h.put (upd f p.2 (nI c)) (upd g p.2 (nI v)) p.2
    have h3 := h.put (upd f p.2 (nI c)) (upd g p.2 (nI v)) (p.2 + 1)
    simp only [eX2_append_0, eX2_append_1, eX2_append_4, eX2_append_5, eX2_append_8, eX2_append_9, eX2_append_12, eX2_append_14, eX2_append_15, eX2_append_16, eX2_append_19, eX2_append_20, eX2_append_23, eX2_append_24, eX2_append_25, eX2_append_26, eX2_append_29, eX2_append_30, eX2_append_33, eX2_append_34, eX2_append_35, eX2_append_36, eX2_append_37, eX2_append_40, eX2_append_41, eX2_append_42, eX2_append_45, eX2_append_46, eX2_append_49, o_alen_e, o_aload_0r, o_const_e, o_dup_e, o_getf_e, o_iast_e, o_icmp_e, o_ii_e, o_iload_1, o_iload_2, o_iret_e, o_putf_e, true_and, xc1_i, xc1_r, xfit_a, xfit_i, xfit_l, xfit_o, h.g2, h.g0, h.l1, lt_nI (a := p.2) (b := cap) (by omega) (by omega), eF, not_true_eq_false, not_false_eq_true, true_implies, false_implies, and_true, true_and, implies_true, forall_const, ↓reduceIte, Bool.false_eq_true, i10, i10n, h.w1 (c := p.2) (by omega) (by omega), h1.g1, h1.g2, h1.w2 (c := p.2) (by omega) (by omega), rowP_rowP h.lt, h2.g2, n1, nI_add, h2.p2, h3.g2]
    refine k _ _ (fun i hi => ?_)
    have hi : i < p.2 + 1 := hi
    show upd f p.2 (nI c) i = nI (va_up p.1 p.2 (c, v) i).1 ∧ upd g p.2 (nI v) i = nI (va_up p.1 p.2 (c, v) i).2
    unfold upd va_up
    by_cases e2 : i = p.2
    · rw [if_pos e2, if_pos e2, if_pos e2]
      exact ⟨rfl, rfl⟩
    · rw [if_neg e2, if_neg e2, if_neg e2]
      exact hR i (by omega)
/-- Rows.firstUnlike(lattice) -/
theorem l_unl (h : RowAt AH b cap f g p.2) (hR : RowR p f g) (hp : prOk p cap 35 7) (hm : cap < 1000) {bl : Nat} {y : sLat} {lk pr : Nat → Int32} (hl : LatAt AH bl y lk pr) (oy : y.ok) {Q : xQ} (k : Q (some (.int (lkV (unF p.1 y p.2)))) AH (0, 0)) : ∀ (n j : Nat), j + n = p.2 → unF p.1 y j = none →
    XR TX2_firstUnlike 2 [some (.ref b), some (.ref bl), some (.int (nI j))] [] AH (0, 0) Q := by
  have hn := sLat.n36 oy
  have hc := hp.1
  intro n
  induction n with
  | zero =>
    intro j hj hu
    rw [eX2_firstUnlike_2]
    simp only [eX2_firstUnlike_0, eX2_firstUnlike_1, eX2_firstUnlike_3, eX2_firstUnlike_4, eX2_firstUnlike_7, eX2_firstUnlike_10, eX2_firstUnlike_11, eX2_firstUnlike_12, eX2_firstUnlike_15, eX2_firstUnlike_16, eX2_firstUnlike_17, eX2_firstUnlike_20, eX2_firstUnlike_23, eX2_firstUnlike_24, eX2_firstUnlike_27, eX2_firstUnlike_28, eX2_firstUnlike_31, eX2_firstUnlike_32, eX2_firstUnlike_33, eX2_firstUnlike_34, eX2_firstUnlike_35, eX2_firstUnlike_38, eX2_firstUnlike_39, eX2_firstUnlike_40, eX2_firstUnlike_43, eX2_firstUnlike_44, eX2_firstUnlike_45, eX2_firstUnlike_48, eX2_firstUnlike_51, eX2_firstUnlike_53, Nat.add_zero, Nat.reduceAdd, Nat.reduceLeDiff, Nat.zero_le, and_true, o_aload_0r, o_aload_1r, o_callV_1, o_const_e, o_getf_e, o_goto_e, o_iald_e, o_iald_f, o_icmp_e, o_if_e, o_iinc_2, o_iload_2, o_iret_e, o_ist_2, tl_n, tl_s, true_and, xnlv_i, xnlv_n, xnlv_r, xwt_0, xwt_f, xwt_i, xwt_l, xwt_r, h.g2, le_nI (a := p.2) (b := j) (by omega) (by omega)]
    refine ⟨fun _ => ?_, fun g => by omega⟩
    rw [show p.2 = j by omega, hu] at k
    exact k
  | succ n ih =>
    intro j hj hu
    obtain ⟨e1, e2⟩ := hR j (by omega)
    obtain ⟨q1, q2⟩ := hp.2 j (by omega)
    have hmk := oy.1 (p.1 j).1
    rw [eX2_firstUnlike_2]
    simp only [eX2_firstUnlike_0, eX2_firstUnlike_1, eX2_firstUnlike_3, eX2_firstUnlike_4, eX2_firstUnlike_7, eX2_firstUnlike_10, eX2_firstUnlike_11, eX2_firstUnlike_12, eX2_firstUnlike_15, eX2_firstUnlike_16, eX2_firstUnlike_17, eX2_firstUnlike_20, eX2_firstUnlike_23, eX2_firstUnlike_24, eX2_firstUnlike_27, eX2_firstUnlike_28, eX2_firstUnlike_31, eX2_firstUnlike_32, eX2_firstUnlike_33, eX2_firstUnlike_34, eX2_firstUnlike_35, eX2_firstUnlike_38, eX2_firstUnlike_39, eX2_firstUnlike_40, eX2_firstUnlike_43, eX2_firstUnlike_44, eX2_firstUnlike_45, eX2_firstUnlike_48, eX2_firstUnlike_51, eX2_firstUnlike_53, Nat.add_zero, Nat.reduceAdd, Nat.reduceLeDiff, Nat.zero_le, and_true, o_aload_0r, o_aload_1r, o_callV_1, o_const_e, o_getf_e, o_goto_e, o_iald_e, o_iald_f, o_icmp_e, o_if_e, o_iinc_2, o_iload_2, o_iret_e, o_ist_2, tl_n, tl_s, true_and, xnlv_i, xnlv_n, xnlv_r, xwt_0, xwt_f, xwt_i, xwt_l, xwt_r, h.g2, le_nI (a := p.2) (b := j) (by omega) (by omega), h.g0, h.r1 (c := j) (by omega) (by omega), e1, hl.cls, true_and]
    refine ⟨fun g => by omega, fun _ => c_hasCell hl oy ?_⟩
    rcases ix_cases (n := y.n) (by omega) (nI (p.1 j).1) with ⟨i, i1, i2, e⟩ | ⟨h0, e⟩ | ⟨h0, h1, e⟩
    · have i2 := (nI_eq (by omega) (by omega)).mp i2
      subst i2
      rw [e]
      simp only [eX2_firstUnlike_0, eX2_firstUnlike_1, eX2_firstUnlike_3, eX2_firstUnlike_4, eX2_firstUnlike_7, eX2_firstUnlike_10, eX2_firstUnlike_11, eX2_firstUnlike_12, eX2_firstUnlike_15, eX2_firstUnlike_16, eX2_firstUnlike_17, eX2_firstUnlike_20, eX2_firstUnlike_23, eX2_firstUnlike_24, eX2_firstUnlike_27, eX2_firstUnlike_28, eX2_firstUnlike_31, eX2_firstUnlike_32, eX2_firstUnlike_33, eX2_firstUnlike_34, eX2_firstUnlike_35, eX2_firstUnlike_38, eX2_firstUnlike_39, eX2_firstUnlike_40, eX2_firstUnlike_43, eX2_firstUnlike_44, eX2_firstUnlike_45, eX2_firstUnlike_48, eX2_firstUnlike_51, eX2_firstUnlike_53, Nat.add_zero, Nat.reduceAdd, Nat.reduceLeDiff, Nat.zero_le, and_true, o_aload_0r, o_aload_1r, o_callV_1, o_const_e, o_getf_e, o_goto_e, o_iald_e, o_iald_f, o_icmp_e, o_if_e, o_iinc_2, o_iload_2, o_iret_e, o_ist_2, tl_n, tl_s, true_and, xnlv_i, xnlv_n, xnlv_r, xwt_0, xwt_f, xwt_i, xwt_l, xwt_r, Option.isSome, not_true_eq_false, not_false_eq_true, true_implies, false_implies, and_true, true_and, implies_true, forall_const, ↓reduceIte, Bool.false_eq_true, i10, i10n, hl.g0, h.g0, h.g1, h.r1 (c := j) (by omega) (by omega), e1, hl.rm (c := (p.1 j).1) (by omega), h.r2 (c := j) (by omega) (by omega), e2, eq_nI (a := y.mk (p.1 j).1) (b := (p.1 j).2) (by omega) (by omega), n1, nI_add]
      refine ⟨fun g => ih (j + 1) (by omega) (unF_s hu ⟨i1, g⟩), fun g => ?_⟩
      rw [unF_hit hu (fun z => g z.2) (by omega)] at k
      exact k
    · exact absurd h0 (nI_pos (by omega))
    · rw [e]
      rw [le_nI (by omega) (by omega)] at h1
      simp only [eX2_firstUnlike_0, eX2_firstUnlike_1, eX2_firstUnlike_3, eX2_firstUnlike_4, eX2_firstUnlike_7, eX2_firstUnlike_10, eX2_firstUnlike_11, eX2_firstUnlike_12, eX2_firstUnlike_15, eX2_firstUnlike_16, eX2_firstUnlike_17, eX2_firstUnlike_20, eX2_firstUnlike_23, eX2_firstUnlike_24, eX2_firstUnlike_27, eX2_firstUnlike_28, eX2_firstUnlike_31, eX2_firstUnlike_32, eX2_firstUnlike_33, eX2_firstUnlike_34, eX2_firstUnlike_35, eX2_firstUnlike_38, eX2_firstUnlike_39, eX2_firstUnlike_40, eX2_firstUnlike_43, eX2_firstUnlike_44, eX2_firstUnlike_45, eX2_firstUnlike_48, eX2_firstUnlike_51, eX2_firstUnlike_53, Nat.add_zero, Nat.reduceAdd, Nat.reduceLeDiff, Nat.zero_le, and_true, o_aload_0r, o_aload_1r, o_callV_1, o_const_e, o_getf_e, o_goto_e, o_iald_e, o_iald_f, o_icmp_e, o_if_e, o_iinc_2, o_iload_2, o_iret_e, o_ist_2, tl_n, tl_s, true_and, xnlv_i, xnlv_n, xnlv_r, xwt_0, xwt_f, xwt_i, xwt_l, xwt_r, Option.isSome, not_true_eq_false, not_false_eq_true, true_implies, false_implies, and_true, true_and, implies_true, forall_const, ↓reduceIte, Bool.false_eq_true, i10, i10n, eq_self]
      rw [unF_hit hu (fun z => by omega) (by omega)] at k
      exact k
theorem c_unl (h : RowAt AH b cap f g p.2) (hR : RowR p f g) (hp : prOk p cap 35 7) (hm : cap < 1000) {bl : Nat} {y : sLat} {lk pr : Nat → Int32} (hl : LatAt AH bl y lk pr) (oy : y.ok) {Q : Option Value → xH → Prop} (k : Q (some (.int (lkV (unF p.1 y p.2)))) AH) : XC MX2_firstUnlike [.ref b, .ref bl] AH Q := by
  refine XC.ofR (L := [some (.ref b), some (.ref bl), none]) KX2_firstUnlike (by decide +kernel) (by first | decide | exact Nat.le_of_ble_eq_true rfl) rfl ?_
  simp only [eX2_firstUnlike_0, eX2_firstUnlike_1, eX2_firstUnlike_3, eX2_firstUnlike_4, eX2_firstUnlike_7, eX2_firstUnlike_10, eX2_firstUnlike_11, eX2_firstUnlike_12, eX2_firstUnlike_15, eX2_firstUnlike_16, eX2_firstUnlike_17, eX2_firstUnlike_20, eX2_firstUnlike_23, eX2_firstUnlike_24, eX2_firstUnlike_27, eX2_firstUnlike_28, eX2_firstUnlike_31, eX2_firstUnlike_32, eX2_firstUnlike_33, eX2_firstUnlike_34, eX2_firstUnlike_35, eX2_firstUnlike_38, eX2_firstUnlike_39, eX2_firstUnlike_40, eX2_firstUnlike_43, eX2_firstUnlike_44, eX2_firstUnlike_45, eX2_firstUnlike_48, eX2_firstUnlike_51, eX2_firstUnlike_53, Nat.add_zero, Nat.reduceAdd, Nat.reduceLeDiff, Nat.zero_le, and_true, o_aload_0r, o_aload_1r, o_callV_1, o_const_e, o_getf_e, o_goto_e, o_iald_e, o_iald_f, o_icmp_e, o_if_e, o_iinc_2, o_iload_2, o_iret_e, o_ist_2, tl_n, tl_s, true_and, xnlv_i, xnlv_n, xnlv_r, xwt_0, xwt_f, xwt_i, xwt_l, xwt_r]
  exact l_unl h hR hp hm hl oy (Q := fun v AH' _ => Q v AH') k p.2 0 (by omega) rfl
/-- Rows.takeFrom(other) -/
theorem c_rowT (h : RowAt AH b cap f g n) {b2 : Nat} {f2 g2 : Nat → Int32} (h2 : RowAt AH b2 cap f2 g2 p.2) (sep : b + 3 ≤ b2 ∨ b2 + 3 ≤ b) (hR : RowR p f2 g2) (hn : p.2 ≤ cap) (hm : cap < 1000) {Q : Option Value → xH → Prop} (k : ∀ f' g', RowR p f' g' → Q none (rowP AH b cap f' g' p.2)) : XC MX2_takeFrom [.ref b, .ref b2] AH Q := by
  refine XC.ofR (L := [some (.ref b), some (.ref b2)]) KX2_takeFrom (by decide +kernel) (by first | decide | exact Nat.le_of_ble_eq_true rfl) rfl ?_
  simp only [eX2_takeFrom_0, eX2_takeFrom_1, eX2_takeFrom_2, eX2_takeFrom_5, eX2_takeFrom_6, eX2_takeFrom_9, eX2_takeFrom_10, eX2_takeFrom_13, eX2_takeFrom_16, eX2_takeFrom_17, eX2_takeFrom_20, eX2_takeFrom_21, eX2_takeFrom_22, eX2_takeFrom_25, eX2_takeFrom_26, eX2_takeFrom_27, eX2_takeFrom_30, eX2_takeFrom_33, eX2_takeFrom_34, eX2_takeFrom_37, eX2_takeFrom_38, eX2_takeFrom_39, eX2_takeFrom_42, eX2_takeFrom_43, eX2_takeFrom_44, eX2_takeFrom_47, eX2_takeFrom_50, Nat.add_zero, Nat.reduceAdd, Nat.reduceLeDiff, Nat.zero_le, and_true, o_alen_e, o_aload_0r, o_aload_1r, o_callS_2, o_const_e, o_copy_e, o_getf_e, o_putf_e, o_vret_e, tl_n, tl_s, true_and, xfit_a, xfit_i, xfit_l, xfit_o, xwt_0, xwt_f, xwt_i, xwt_l, xwt_r, h2.g2, h.g0, h.l1]
  refine c_min ?_
  have e1 : (if nI cap < nI p.2 then nI cap else nI p.2) = nI p.2 := by
    exact if_neg (fun g => by
      rw [lt_nI (by omega) (by omega)] at g
      omega)
  rw [e1]
  have a0 := h.put f g p.2
  have b0 : RowAt (rowP AH b cap f g p.2) b2 cap f2 g2 p.2 := BlkAt.fr2 h2 (h.F (f2 := f) (g2 := g) (n2 := p.2)) (by show b2 + 3 ≤ b ∨ b + 3 ≤ b2; omega)
  have a1 := h.put (va_cpy f2 f 0 0 p.2) g p.2
  have b1 : RowAt (rowP AH b cap (va_cpy f2 f 0 0 p.2) g p.2) b2 cap f2 g2 p.2 := BlkAt.fr2 h2 (h.F (f2 := va_cpy f2 f 0 0 p.2) (g2 := g) (n2 := p.2)) (by show b2 + 3 ≤ b ∨ b + 3 ≤ b2; omega)
  simp only [eX2_takeFrom_0, eX2_takeFrom_1, eX2_takeFrom_2, eX2_takeFrom_5, eX2_takeFrom_6, eX2_takeFrom_9, eX2_takeFrom_10, eX2_takeFrom_13, eX2_takeFrom_16, eX2_takeFrom_17, eX2_takeFrom_20, eX2_takeFrom_21, eX2_takeFrom_22, eX2_takeFrom_25, eX2_takeFrom_26, eX2_takeFrom_27, eX2_takeFrom_30, eX2_takeFrom_33, eX2_takeFrom_34, eX2_takeFrom_37, eX2_takeFrom_38, eX2_takeFrom_39, eX2_takeFrom_42, eX2_takeFrom_43, eX2_takeFrom_44, eX2_takeFrom_47, eX2_takeFrom_50, Nat.add_zero, Nat.reduceAdd, Nat.reduceLeDiff, Nat.zero_le, and_true, o_alen_e, o_aload_0r, o_aload_1r, o_callS_2, o_const_e, o_copy_e, o_getf_e, o_putf_e, o_vret_e, tl_n, tl_s, true_and, xfit_a, xfit_i, xfit_l, xfit_o, xwt_0, xwt_f, xwt_i, xwt_l, xwt_r, h.p2, b0.g0, a0.g0, a0.g2, z_nI, xcpy_of (b0 1 _ rfl) (a0 1 _ rfl) (show 0 + p.2 ≤ cap by omega) (show 0 + p.2 ≤ cap by omega) (by omega) (by omega), a0.a1, rowP_rowP h.lt, b1.g1, a1.g1, a1.g2, xcpy_of (b1 2 _ rfl) (a1 2 _ rfl) (show 0 + p.2 ≤ cap by omega) (show 0 + p.2 ≤ cap by omega) (by omega) (by omega), a1.a2]
  refine k _ _ (fun i hi => ?_)
  rw [pk_cpy_in (by omega) (by omega), pk_cpy_in (by omega) (by omega)]
  have := hR i hi
  rw [show 0 + (i - 0) = i by omega]
  exact this
end ROW
