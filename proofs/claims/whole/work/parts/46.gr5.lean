/-! the reference: what is told of grains -/
def sMod.kz (s : sMod) : Prop := ∀ i, 113 ≤ i → s.kp i = 0
def sMod.pq (s2 s : sMod) : Prop := s2.nw = s.nw ∧ s2.im = s.im ∧ s2.hI = s.hI ∧ s2.tx = s.tx ∧ s2.wr = s.wr ∧ s2.it = s.it ∧ s2.so = s.so ∧ s2.sz = s.sz ∧ (s.kz → s2.kz)
theorem sMod.pq.rf (s : sMod) : s.pq s := ⟨rfl, rfl, rfl, rfl, rfl, rfl, rfl, rfl, id⟩
theorem sMod.gq.pq {s2 s : sMod} (h : s2.gq s) : s2.pq s := ⟨h.1, h.2.2.1, h.2.2.2.1, h.2.2.2.2.1, h.2.2.2.2.2.1, h.2.2.2.2.2.2.1, h.2.2.2.2.2.2.2.1, h.2.2.2.2.2.2.2.2, fun z i hi => by rw [h.2.1.1]; exact z i hi⟩
theorem tI_iff {x : sLat} (ok : x.ok) {c : Nat} (hc : c < x.n) {m : Nat → Nat} {q i : Nat} : ∀ d, (tI x c m d q).testBit i = true ↔ ((m q).testBit i = true ∨ ∃ d', d' < d ∧ ∃ o, x.nb c d' = some o ∧ x.gn o ≠ x.gn c ∧ x.gn c = q ∧ x.gn o = i)
  | 0 => ⟨Or.inl, fun h => by
      rcases h with h | ⟨d', h, _⟩
      · exact h
      · omega⟩
  | d + 1 => by
    have ih := tI_iff ok hc (m := m) (q := q) (i := i) d
    cases hb : x.nb c d with
    | none =>
      simp only [tI, hb]
      rw [ih]
      constructor
      · rintro (h | ⟨d', h, h2⟩)
        · exact Or.inl h
        · exact Or.inr ⟨d', by omega, h2⟩
      · rintro (h | ⟨d', h, o, h2, h3⟩)
        · exact Or.inl h
        · by_cases e : d' = d
          · subst e; rw [hb] at h2; cases h2
          · exact Or.inr ⟨d', by omega, o, h2, h3⟩
    | some o =>
      have ho := sLat.nb_lt ok hb
      have eG : (x.G o = x.G c) = (x.gn o = x.gn c) := by rw [gn_G ho, gn_G hc, Option.some.injEq]
      simp only [tI, hb, eG]
      by_cases e : x.gn o = x.gn c
      · rw [if_pos e, ih]
        constructor
        · rintro (h | ⟨d', h, h2⟩)
          · exact Or.inl h
          · exact Or.inr ⟨d', by omega, h2⟩
        · rintro (h | ⟨d', h, o', h2, h3⟩)
          · exact Or.inl h
          · by_cases e2 : d' = d
            · subst e2; rw [hb] at h2; cases h2; exact absurd e h3.1
            · exact Or.inr ⟨d', by omega, o', h2, h3⟩
      · rw [if_neg e]
        by_cases e3 : x.gn c = q
        · subst e3
          rw [show va_up (tI x c m d) (x.gn c) (tI x c m d (x.gn c) ||| 2 ^ x.gn o) (x.gn c) = (tI x c m d (x.gn c) ||| 2 ^ x.gn o) by unfold va_up; rw [if_pos rfl], Nat.testBit_or, Bool.or_eq_true, ih, Nat.testBit_two_pow, decide_eq_true_eq]
          constructor
          · rintro ((h | ⟨d', h, h2⟩) | h)
            · exact Or.inl h
            · exact Or.inr ⟨d', by omega, h2⟩
            · exact Or.inr ⟨d, by omega, o, hb, e, rfl, h⟩
          · rintro (h | ⟨d', h, o', h2, h3⟩)
            · exact Or.inl (Or.inl h)
            · by_cases e2 : d' = d
              · subst e2; rw [hb] at h2; cases h2; exact Or.inr h3.2.2
              · exact Or.inl (Or.inr ⟨d', by omega, o', h2, h3⟩)
        · rw [show va_up (tI x c m d) (x.gn c) (tI x c m d (x.gn c) ||| 2 ^ x.gn o) q = tI x c m d q by unfold va_up; rw [if_neg (fun z => e3 z.symm)], ih]
          constructor
          · rintro (h | ⟨d', h, h2⟩)
            · exact Or.inl h
            · exact Or.inr ⟨d', by omega, h2⟩
          · rintro (h | ⟨d', h, o', h2, h3⟩)
            · exact Or.inl h
            · exact absurd h3.2.1 e3
theorem tM_iff {x : sLat} (ok : x.ok) {q i : Nat} : ∀ c, c ≤ x.n → ((tM x c q).testBit i = true ↔ ∃ c', c' < c ∧ ∃ d', d' < x.nd ∧ ∃ o, x.nb c' d' = some o ∧ x.gn o ≠ x.gn c' ∧ x.gn c' = q ∧ x.gn o = i)
  | 0, _ => ⟨fun h => by simp [tM] at h, fun ⟨c', h, _⟩ => by omega⟩
  | c + 1, hc => by
    rw [show tM x (c + 1) q = tI x c (tM x c) x.nd q from rfl, tI_iff ok (by omega), tM_iff ok c (by omega)]
    constructor
    · rintro (⟨c', h, h2⟩ | h)
      · exact ⟨c', by omega, h2⟩
      · exact ⟨c, by omega, h⟩
    · rintro ⟨c', h, h2⟩
      by_cases e : c' = c
      · subst e; exact Or.inr h2
      · exact Or.inl ⟨c', by omega, h2⟩
theorem ms_iff {x : sLat} (ok : x.ok) {q i : Nat} : (x.ms q).testBit i = true ↔ ∃ c', c' < x.n ∧ ∃ d', d' < x.nd ∧ ∃ o, x.nb c' d' = some o ∧ x.gn o ≠ x.gn c' ∧ x.gn c' = q ∧ x.gn o = i := tM_iff ok x.n (Nat.le_refl _)
theorem ms_self {x : sLat} (ok : x.ok) {q : Nat} : (x.ms q).testBit q = false := by
  rw [Bool.eq_false_iff]
  intro h
  obtain ⟨_, _, _, _, _, _, h1, h2, h3⟩ := (ms_iff ok).mp h
  exact h1 (h3.trans h2.symm)
theorem ms_hi {x : sLat} (ok : x.ok) {q i : Nat} (h : x.gT ≤ i) : (x.ms q).testBit i = false := by
  rw [Bool.eq_false_iff]
  intro g
  obtain ⟨_, _, _, _, o, h0, _, _, h3⟩ := (ms_iff ok).mp g
  have := gn_lt (sLat.nb_lt ok h0)
  omega
theorem bc_cut {m n : Nat} (h : ∀ i, n ≤ i → m.testBit i = false) : ∀ k, bc m (n + k) = bc m n
  | 0 => rfl
  | k + 1 => by
    show bc m (n + k) + (if m.testBit (n + k) then 1 else 0) = _
    rw [bc_cut h k, h (n + k) (by omega)]
    rfl
theorem nbr_eq {x : sLat} (ok : x.ok) (q : Nat) : x.nbr q = sm (fun i => if i ≠ q ∧ (x.ms q).testBit i = true then 1 else 0) x.gT := by
  have hn := sLat.n36 ok
  have hgt := sLat.gT_le (x := x)
  have := bc_cut (m := x.ms q) (n := x.gT) (fun i hi => ms_hi ok hi) (40 - x.gT)
  rw [show x.gT + (40 - x.gT) = 40 by omega] at this
  show bc (x.ms q) 40 = _
  rw [this]
  refine sm_congr (fun i _ => ?_)
  by_cases e : i = q
  · subst e
    rw [ms_self ok]
    simp
  · cases hb : (x.ms q).testBit i <;> simp [e]
section GR5
variable {AH : xH} {m : Nat} {s : sMod} {x : sLat} {r : sRow}
theorem MgOK.gc (h : MgOK x s) (ok : x.ok) {c : Nat} (hc : c < x.n) : s.go c = nI (x.gn c) := by
  have := sLat.n36 ok
  rw [h.1 c (by omega), gn_G hc]
  rfl
theorem k_pins (h : MoL AH m s x r) (ok : x.ok) {Q : xQ} (k : Q (some (.int (nI (sm x.pn x.n)))) AH (0, 0)) : ∀ (n j : Nat), j + n = x.n →
    XR TX7_pins 4 [some (.ref m), some (.int (nI (sm x.pn j))), some (.int (nI j))] [] AH (0, 0) Q := by
  have hn := sLat.n36 ok
  intro n
  induction n with
  | zero =>
    intro j hj
    rw [eX7_pins_4]
    simp only [eX7_pins_0, eX7_pins_1, eX7_pins_2, eX7_pins_3, eX7_pins_5, eX7_pins_6, eX7_pins_9, eX7_pins_12, eX7_pins_13, eX7_pins_14, eX7_pins_17, eX7_pins_19, eX7_pins_20, eX7_pins_21, eX7_pins_22, eX7_pins_23, eX7_pins_24, eX7_pins_27, eX7_pins_30, eX7_pins_31, Nat.add_zero, Nat.reduceAdd, Nat.reduceLeDiff, Nat.zero_le, and_true, o_aload_0r, o_callV_0, o_const_e, o_getf_e, o_goto_e, o_iald_e, o_iald_f, o_icmp_e, o_ii_e, o_iinc_2, o_iload_1, o_iload_2, o_iret_e, o_ist_1, o_ist_2, tl_n, tl_s, true_and, xnlv_i, xnlv_n, xnlv_r, xwt_0, xwt_f, xwt_i, xwt_l, xwt_r, h.1.cls, h.1.g0, h.1.g1, h.1.g2, h.1.g3, h.1.g4, h.1.g5, h.1.g6, h.1.g7, h.1.g8, h.1.g9, h.1.g10, h.1.g11, h.1.g12, h.1.g13, h.1.g14, h.1.g15, h.1.g16, h.1.g17, h.1.g18, h.1.g19, h.i0, h.i1, h.i2, h.i3, h.i4, h.i5, h.i6, h.i7, h.i8, h.i9, h.i10, h.j0, h.j1, h.j2, h.j3, h.j4, h.j5, h.j6, h.j7, h.j8, h.j9, h.j10]
    refine d_cells h ?_
    simp only [eX7_pins_0, eX7_pins_1, eX7_pins_2, eX7_pins_3, eX7_pins_5, eX7_pins_6, eX7_pins_9, eX7_pins_12, eX7_pins_13, eX7_pins_14, eX7_pins_17, eX7_pins_19, eX7_pins_20, eX7_pins_21, eX7_pins_22, eX7_pins_23, eX7_pins_24, eX7_pins_27, eX7_pins_30, eX7_pins_31, Nat.add_zero, Nat.reduceAdd, Nat.reduceLeDiff, Nat.zero_le, and_true, o_aload_0r, o_callV_0, o_const_e, o_getf_e, o_goto_e, o_iald_e, o_iald_f, o_icmp_e, o_ii_e, o_iinc_2, o_iload_1, o_iload_2, o_iret_e, o_ist_1, o_ist_2, tl_n, tl_s, true_and, xnlv_i, xnlv_n, xnlv_r, xwt_0, xwt_f, xwt_i, xwt_l, xwt_r, le_nI (a := x.n) (b := j) (by omega) (by omega)]
    refine ⟨fun _ => ?_, fun g => by omega⟩
    rw [show j = x.n by omega]
    exact k
  | succ n ih =>
    intro j hj
    rw [eX7_pins_4]
    simp only [eX7_pins_0, eX7_pins_1, eX7_pins_2, eX7_pins_3, eX7_pins_5, eX7_pins_6, eX7_pins_9, eX7_pins_12, eX7_pins_13, eX7_pins_14, eX7_pins_17, eX7_pins_19, eX7_pins_20, eX7_pins_21, eX7_pins_22, eX7_pins_23, eX7_pins_24, eX7_pins_27, eX7_pins_30, eX7_pins_31, Nat.add_zero, Nat.reduceAdd, Nat.reduceLeDiff, Nat.zero_le, and_true, o_aload_0r, o_callV_0, o_const_e, o_getf_e, o_goto_e, o_iald_e, o_iald_f, o_icmp_e, o_ii_e, o_iinc_2, o_iload_1, o_iload_2, o_iret_e, o_ist_1, o_ist_2, tl_n, tl_s, true_and, xnlv_i, xnlv_n, xnlv_r, xwt_0, xwt_f, xwt_i, xwt_l, xwt_r, h.1.cls, h.1.g0, h.1.g1, h.1.g2, h.1.g3, h.1.g4, h.1.g5, h.1.g6, h.1.g7, h.1.g8, h.1.g9, h.1.g10, h.1.g11, h.1.g12, h.1.g13, h.1.g14, h.1.g15, h.1.g16, h.1.g17, h.1.g18, h.1.g19, h.i0, h.i1, h.i2, h.i3, h.i4, h.i5, h.i6, h.i7, h.i8, h.i9, h.i10, h.j0, h.j1, h.j2, h.j3, h.j4, h.j5, h.j6, h.j7, h.j8, h.j9, h.j10]
    refine d_cells h ?_
    simp only [eX7_pins_0, eX7_pins_1, eX7_pins_2, eX7_pins_3, eX7_pins_5, eX7_pins_6, eX7_pins_9, eX7_pins_12, eX7_pins_13, eX7_pins_14, eX7_pins_17, eX7_pins_19, eX7_pins_20, eX7_pins_21, eX7_pins_22, eX7_pins_23, eX7_pins_24, eX7_pins_27, eX7_pins_30, eX7_pins_31, Nat.add_zero, Nat.reduceAdd, Nat.reduceLeDiff, Nat.zero_le, and_true, o_aload_0r, o_callV_0, o_const_e, o_getf_e, o_goto_e, o_iald_e, o_iald_f, o_icmp_e, o_ii_e, o_iinc_2, o_iload_1, o_iload_2, o_iret_e, o_ist_1, o_ist_2, tl_n, tl_s, true_and, xnlv_i, xnlv_n, xnlv_r, xwt_0, xwt_f, xwt_i, xwt_l, xwt_r, le_nI (a := x.n) (b := j) (by omega) (by omega), h.1.cls, h.1.g0, h.1.g1, h.1.g2, h.1.g3, h.1.g4, h.1.g5, h.1.g6, h.1.g7, h.1.g8, h.1.g9, h.1.g10, h.1.g11, h.1.g12, h.1.g13, h.1.g14, h.1.g15, h.1.g16, h.1.g17, h.1.g18, h.1.g19, h.i0, h.i1, h.i2, h.i3, h.i4, h.i5, h.i6, h.i7, h.i8, h.i9, h.i10, h.j0, h.j1, h.j2, h.j3, h.j4, h.j5, h.j6, h.j7, h.j8, h.j9, h.j10, n47, nI_add, h.rp (c := j) (by omega), n1]
    exact ⟨fun g => by omega, fun _ => ih (j + 1) (by omega)⟩
/-- pins() -/
theorem d_pins (h : MoL AH m s x r) (ok : x.ok) {Q : Option Value → xH → Prop} (k : Q (some (.int (nI (sm x.pn x.n)))) AH) : XC MX7_pins [.ref m] AH Q := by
  refine XC.ofR (L := [some (.ref m), none, none]) KX7_pins (by decide +kernel) (by first | decide | exact Nat.le_of_ble_eq_true rfl) rfl ?_
  simp only [eX7_pins_0, eX7_pins_1, eX7_pins_2, eX7_pins_3, eX7_pins_5, eX7_pins_6, eX7_pins_9, eX7_pins_12, eX7_pins_13, eX7_pins_14, eX7_pins_17, eX7_pins_19, eX7_pins_20, eX7_pins_21, eX7_pins_22, eX7_pins_23, eX7_pins_24, eX7_pins_27, eX7_pins_30, eX7_pins_31, Nat.add_zero, Nat.reduceAdd, Nat.reduceLeDiff, Nat.zero_le, and_true, o_aload_0r, o_callV_0, o_const_e, o_getf_e, o_goto_e, o_iald_e, o_iald_f, o_icmp_e, o_ii_e, o_iinc_2, o_iload_1, o_iload_2, o_iret_e, o_ist_1, o_ist_2, tl_n, tl_s, true_and, xnlv_i, xnlv_n, xnlv_r, xwt_0, xwt_f, xwt_i, xwt_l, xwt_r]
  exact k_pins h ok k x.n 0 (by omega)
theorem k_largest (h : MoL AH m s x r) (ok : x.ok) (hG : MgOK x s) {Q : xQ} (k : Q (some (.int (nI (x.fgr x.gT)))) AH (0, 0)) : ∀ (n j : Nat), 0 < j → j + n = x.gT →
    XR TX7_largest 4 [some (.ref m), some (.int (nI (x.fgr j))), some (.int (nI j))] [] AH (0, 0) Q := by
  have hn := sLat.n36 ok
  have hgt := sLat.gT_le (x := x)
  have ett := hG.2.2.2
  intro n
  induction n with
  | zero =>
    intro j h0 hj
    rw [eX7_largest_4]
    simp only [eX7_largest_0, eX7_largest_1, eX7_largest_2, eX7_largest_3, eX7_largest_5, eX7_largest_6, eX7_largest_9, eX7_largest_12, eX7_largest_13, eX7_largest_16, eX7_largest_17, eX7_largest_18, eX7_largest_19, eX7_largest_22, eX7_largest_23, eX7_largest_24, eX7_largest_27, eX7_largest_28, eX7_largest_31, eX7_largest_32, eX7_largest_33, eX7_largest_36, eX7_largest_39, eX7_largest_40, o_aload_0r, o_const_e, o_getf_e, o_goto_e, o_iald_e, o_iald_f, o_icmp_e, o_iinc_2, o_iload_1, o_iload_2, o_iret_e, o_ist_1, o_ist_2, true_and, xnlv_i, xnlv_n, xnlv_r, h.1.cls, h.1.g0, h.1.g1, h.1.g2, h.1.g3, h.1.g4, h.1.g5, h.1.g6, h.1.g7, h.1.g8, h.1.g9, h.1.g10, h.1.g11, h.1.g12, h.1.g13, h.1.g14, h.1.g15, h.1.g16, h.1.g17, h.1.g18, h.1.g19, h.i0, h.i1, h.i2, h.i3, h.i4, h.i5, h.i6, h.i7, h.i8, h.i9, h.i10, h.j0, h.j1, h.j2, h.j3, h.j4, h.j5, h.j6, h.j7, h.j8, h.j9, h.j10, ett, le_nI (a := x.gT) (b := j) (by omega) (by omega)]
    refine ⟨fun _ => ?_, fun g => by omega⟩
    rw [show j = x.gT by omega]
    exact k
  | succ n ih =>
    intro j h0 hj
    have hf := fgr_le (x := x) j
    have this := ih (j + 1) (by omega) (by omega)
    rw [show x.fgr (j + 1) = if x.gS (x.fgr j) < x.gS j then j else x.fgr j from rfl] at this
    have e1 := hG.2.2.1 j (by omega)
    have e2 := hG.2.2.1 (x.fgr j) (by omega)
    have s1 := sLat.gS36 ok j
    have s2 := sLat.gS36 ok (x.fgr j)
    rw [eX7_largest_4]
    simp only [eX7_largest_0, eX7_largest_1, eX7_largest_2, eX7_largest_3, eX7_largest_5, eX7_largest_6, eX7_largest_9, eX7_largest_12, eX7_largest_13, eX7_largest_16, eX7_largest_17, eX7_largest_18, eX7_largest_19, eX7_largest_22, eX7_largest_23, eX7_largest_24, eX7_largest_27, eX7_largest_28, eX7_largest_31, eX7_largest_32, eX7_largest_33, eX7_largest_36, eX7_largest_39, eX7_largest_40, o_aload_0r, o_const_e, o_getf_e, o_goto_e, o_iald_e, o_iald_f, o_icmp_e, o_iinc_2, o_iload_1, o_iload_2, o_iret_e, o_ist_1, o_ist_2, true_and, xnlv_i, xnlv_n, xnlv_r, h.1.cls, h.1.g0, h.1.g1, h.1.g2, h.1.g3, h.1.g4, h.1.g5, h.1.g6, h.1.g7, h.1.g8, h.1.g9, h.1.g10, h.1.g11, h.1.g12, h.1.g13, h.1.g14, h.1.g15, h.1.g16, h.1.g17, h.1.g18, h.1.g19, h.i0, h.i1, h.i2, h.i3, h.i4, h.i5, h.i6, h.i7, h.i8, h.i9, h.i10, h.j0, h.j1, h.j2, h.j3, h.j4, h.j5, h.j6, h.j7, h.j8, h.j9, h.j10, ett, le_nI (a := x.gT) (b := j) (by omega) (by omega), h.1.r_gs (c := j) (by omega), h.1.r_gs (c := x.fgr j) (by omega), e1, e2, le_nI (a := x.gS j) (b := x.gS (x.fgr j)) (by omega) (by omega), n1, nI_add]
    refine ⟨fun g => by omega, fun _ => ⟨fun g1 => ?_, fun g1 => ?_⟩⟩
    · rw [if_neg (by omega)] at this
      exact this
    · rw [if_pos (by omega)] at this
      exact this
/-- largest() -/
theorem d_largest (h : MoL AH m s x r) (ok : x.ok) (hG : MgOK x s) {Q : Option Value → xH → Prop} (k : Q (some (.int (nI (x.fgr x.gT)))) AH) : XC MX7_largest [.ref m] AH Q := by
  have h0 := gT_pos ok
  refine XC.ofR (L := [some (.ref m), none, none]) KX7_largest (by decide +kernel) (by first | decide | exact Nat.le_of_ble_eq_true rfl) rfl ?_
  simp only [eX7_largest_0, eX7_largest_1, eX7_largest_2, eX7_largest_3, eX7_largest_5, eX7_largest_6, eX7_largest_9, eX7_largest_12, eX7_largest_13, eX7_largest_16, eX7_largest_17, eX7_largest_18, eX7_largest_19, eX7_largest_22, eX7_largest_23, eX7_largest_24, eX7_largest_27, eX7_largest_28, eX7_largest_31, eX7_largest_32, eX7_largest_33, eX7_largest_36, eX7_largest_39, eX7_largest_40, o_aload_0r, o_const_e, o_getf_e, o_goto_e, o_iald_e, o_iald_f, o_icmp_e, o_iinc_2, o_iload_1, o_iload_2, o_iret_e, o_ist_1, o_ist_2, true_and, xnlv_i, xnlv_n, xnlv_r]
  have := k_largest h ok hG (Q := fun v AH' _ => Q v AH') k (x.gT - 1) 1 (by omega) (by omega)
  rw [show x.fgr 1 = 0 by show (if _ then 0 else 0) = 0; split <;> rfl] at this
  exact this
theorem k_are1 (h : MoL AH m s x r) (ok : x.ok) (hG : MgOK x s) {a g c : Nat} (hga : g ≠ a) (hg : g < x.gT) (hc : c < x.n) (hca : x.gn c = a) {Q : xQ} (k1 : (x.ms a).testBit g = true → Q (some (.int 1)) AH (0, 0)) (k : (∀ d', d' < x.nd → ∀ o, x.nb c d' = some o → x.gn o ≠ g) → ∀ w : Option Value, XR TX7_areNeighbours 65 [some (.ref m), some (.int (nI a)), some (.int (nI g)), some (.int (nI c)), some (.int (nI x.nd)), w] [] AH (0, 0) Q) : ∀ (n d : Nat), d + n = x.nd → (∀ d', d' < d → ∀ o, x.nb c d' = some o → x.gn o ≠ g) → ∀ w : Option Value,
    XR TX7_areNeighbours 13 [some (.ref m), some (.int (nI a)), some (.int (nI g)), some (.int (nI c)), some (.int (nI d)), w] [] AH (0, 0) Q := by
  have hn := sLat.n36 ok
  have hnd := sLat.nd8 (x := x)
  have hgt := sLat.gT_le (x := x)
  have e1 := hG.gc ok hc
  have hal : a < x.gT := by rw [← hca]; exact gn_lt hc
  rw [hca] at e1
  intro n
  induction n with
  | zero =>
    intro d hd hN w
    rw [eX7_areNeighbours_13]
    simp only [eX7_areNeighbours_0, eX7_areNeighbours_1, eX7_areNeighbours_2, eX7_areNeighbours_3, eX7_areNeighbours_4, eX7_areNeighbours_7, eX7_areNeighbours_10, eX7_areNeighbours_11, eX7_areNeighbours_15, eX7_areNeighbours_16, eX7_areNeighbours_19, eX7_areNeighbours_22, eX7_areNeighbours_23, eX7_areNeighbours_26, eX7_areNeighbours_27, eX7_areNeighbours_28, eX7_areNeighbours_29, eX7_areNeighbours_32, eX7_areNeighbours_33, eX7_areNeighbours_34, eX7_areNeighbours_36, eX7_areNeighbours_39, eX7_areNeighbours_41, eX7_areNeighbours_43, eX7_areNeighbours_46, eX7_areNeighbours_47, eX7_areNeighbours_50, eX7_areNeighbours_52, eX7_areNeighbours_53, eX7_areNeighbours_54, eX7_areNeighbours_57, eX7_areNeighbours_58, eX7_areNeighbours_59, eX7_areNeighbours_62, eX7_areNeighbours_68, eX7_areNeighbours_71, eX7_areNeighbours_72, Nat.add_zero, Nat.reduceAdd, Nat.reduceLeDiff, Nat.zero_le, and_true, o_aload_0r, o_callV_0, o_callV_2, o_const_e, o_getf_e, o_goto_e, o_iald_e, o_iald_f, o_icmp_e, o_if_e, o_iinc_3, o_iinc_4, o_iload_1, o_iload_2, o_iload_3, o_iload_4, o_iload_5, o_ist_3, o_ist_4, o_ist_5, o_zret_0, o_zret_1, tl_n, tl_s, true_and, xnlv_i, xnlv_n, xnlv_r, xwt_0, xwt_f, xwt_i, xwt_l, xwt_r, h.1.cls, h.1.g0, h.1.g1, h.1.g2, h.1.g3, h.1.g4, h.1.g5, h.1.g6, h.1.g7, h.1.g8, h.1.g9, h.1.g10, h.1.g11, h.1.g12, h.1.g13, h.1.g14, h.1.g15, h.1.g16, h.1.g17, h.1.g18, h.1.g19, h.i0, h.i1, h.i2, h.i3, h.i4, h.i5, h.i6, h.i7, h.i8, h.i9, h.i10, h.j0, h.j1, h.j2, h.j3, h.j4, h.j5, h.j6, h.j7, h.j8, h.j9, h.j10]
    refine d_directions h ok ?_
    simp only [eX7_areNeighbours_0, eX7_areNeighbours_1, eX7_areNeighbours_2, eX7_areNeighbours_3, eX7_areNeighbours_4, eX7_areNeighbours_7, eX7_areNeighbours_10, eX7_areNeighbours_11, eX7_areNeighbours_15, eX7_areNeighbours_16, eX7_areNeighbours_19, eX7_areNeighbours_22, eX7_areNeighbours_23, eX7_areNeighbours_26, eX7_areNeighbours_27, eX7_areNeighbours_28, eX7_areNeighbours_29, eX7_areNeighbours_32, eX7_areNeighbours_33, eX7_areNeighbours_34, eX7_areNeighbours_36, eX7_areNeighbours_39, eX7_areNeighbours_41, eX7_areNeighbours_43, eX7_areNeighbours_46, eX7_areNeighbours_47, eX7_areNeighbours_50, eX7_areNeighbours_52, eX7_areNeighbours_53, eX7_areNeighbours_54, eX7_areNeighbours_57, eX7_areNeighbours_58, eX7_areNeighbours_59, eX7_areNeighbours_62, eX7_areNeighbours_68, eX7_areNeighbours_71, eX7_areNeighbours_72, Nat.add_zero, Nat.reduceAdd, Nat.reduceLeDiff, Nat.zero_le, and_true, o_aload_0r, o_callV_0, o_callV_2, o_const_e, o_getf_e, o_goto_e, o_iald_e, o_iald_f, o_icmp_e, o_if_e, o_iinc_3, o_iinc_4, o_iload_1, o_iload_2, o_iload_3, o_iload_4, o_iload_5, o_ist_3, o_ist_4, o_ist_5, o_zret_0, o_zret_1, tl_n, tl_s, true_and, xnlv_i, xnlv_n, xnlv_r, xwt_0, xwt_f, xwt_i, xwt_l, xwt_r, le_nI (a := x.nd) (b := d) (by omega) (by omega)]
    refine ⟨fun _ => ?_, fun g => by omega⟩
    have e : d = x.nd := by omega
    subst e
    exact k hN w
  | succ n ih =>
    intro d hd hN w
    rw [eX7_areNeighbours_13]
    simp only [eX7_areNeighbours_0, eX7_areNeighbours_1, eX7_areNeighbours_2, eX7_areNeighbours_3, eX7_areNeighbours_4, eX7_areNeighbours_7, eX7_areNeighbours_10, eX7_areNeighbours_11, eX7_areNeighbours_15, eX7_areNeighbours_16, eX7_areNeighbours_19, eX7_areNeighbours_22, eX7_areNeighbours_23, eX7_areNeighbours_26, eX7_areNeighbours_27, eX7_areNeighbours_28, eX7_areNeighbours_29, eX7_areNeighbours_32, eX7_areNeighbours_33, eX7_areNeighbours_34, eX7_areNeighbours_36, eX7_areNeighbours_39, eX7_areNeighbours_41, eX7_areNeighbours_43, eX7_areNeighbours_46, eX7_areNeighbours_47, eX7_areNeighbours_50, eX7_areNeighbours_52, eX7_areNeighbours_53, eX7_areNeighbours_54, eX7_areNeighbours_57, eX7_areNeighbours_58, eX7_areNeighbours_59, eX7_areNeighbours_62, eX7_areNeighbours_68, eX7_areNeighbours_71, eX7_areNeighbours_72, Nat.add_zero, Nat.reduceAdd, Nat.reduceLeDiff, Nat.zero_le, and_true, o_aload_0r, o_callV_0, o_callV_2, o_const_e, o_getf_e, o_goto_e, o_iald_e, o_iald_f, o_icmp_e, o_if_e, o_iinc_3, o_iinc_4, o_iload_1, o_iload_2, o_iload_3, o_iload_4, o_iload_5, o_ist_3, o_ist_4, o_ist_5, o_zret_0, o_zret_1, tl_n, tl_s, true_and, xnlv_i, xnlv_n, xnlv_r, xwt_0, xwt_f, xwt_i, xwt_l, xwt_r, h.1.cls, h.1.g0, h.1.g1, h.1.g2, h.1.g3, h.1.g4, h.1.g5, h.1.g6, h.1.g7, h.1.g8, h.1.g9, h.1.g10, h.1.g11, h.1.g12, h.1.g13, h.1.g14, h.1.g15, h.1.g16, h.1.g17, h.1.g18, h.1.g19, h.i0, h.i1, h.i2, h.i3, h.i4, h.i5, h.i6, h.i7, h.i8, h.i9, h.i10, h.j0, h.j1, h.j2, h.j3, h.j4, h.j5, h.j6, h.j7, h.j8, h.j9, h.j10]
    refine d_directions h ok ?_
    simp only [eX7_areNeighbours_0, eX7_areNeighbours_1, eX7_areNeighbours_2, eX7_areNeighbours_3, eX7_areNeighbours_4, eX7_areNeighbours_7, eX7_areNeighbours_10, eX7_areNeighbours_11, eX7_areNeighbours_15, eX7_areNeighbours_16, eX7_areNeighbours_19, eX7_areNeighbours_22, eX7_areNeighbours_23, eX7_areNeighbours_26, eX7_areNeighbours_27, eX7_areNeighbours_28, eX7_areNeighbours_29, eX7_areNeighbours_32, eX7_areNeighbours_33, eX7_areNeighbours_34, eX7_areNeighbours_36, eX7_areNeighbours_39, eX7_areNeighbours_41, eX7_areNeighbours_43, eX7_areNeighbours_46, eX7_areNeighbours_47, eX7_areNeighbours_50, eX7_areNeighbours_52, eX7_areNeighbours_53, eX7_areNeighbours_54, eX7_areNeighbours_57, eX7_areNeighbours_58, eX7_areNeighbours_59, eX7_areNeighbours_62, eX7_areNeighbours_68, eX7_areNeighbours_71, eX7_areNeighbours_72, Nat.add_zero, Nat.reduceAdd, Nat.reduceLeDiff, Nat.zero_le, and_true, o_aload_0r, o_callV_0, o_callV_2, o_const_e, o_getf_e, o_goto_e, o_iald_e, o_iald_f, o_icmp_e, o_if_e, o_iinc_3, o_iinc_4, o_iload_1, o_iload_2, o_iload_3, o_iload_4, o_iload_5, o_ist_3, o_ist_4, o_ist_5, o_zret_0, o_zret_1, tl_n, tl_s, true_and, xnlv_i, xnlv_n, xnlv_r, xwt_0, xwt_f, xwt_i, xwt_l, xwt_r, le_nI (a := x.nd) (b := d) (by omega) (by omega), h.1.cls, h.1.g0, h.1.g1, h.1.g2, h.1.g3, h.1.g4, h.1.g5, h.1.g6, h.1.g7, h.1.g8, h.1.g9, h.1.g10, h.1.g11, h.1.g12, h.1.g13, h.1.g14, h.1.g15, h.1.g16, h.1.g17, h.1.g18, h.1.g19, h.i0, h.i1, h.i2, h.i3, h.i4, h.i5, h.i6, h.i7, h.i8, h.i9, h.i10, h.j0, h.j1, h.j2, h.j3, h.j4, h.j5, h.j6, h.j7, h.j8, h.j9, h.j10, h.1.r_go (c := c) (by omega), e1, eq_self, not_true_eq_false, not_false_eq_true, true_implies, false_implies, and_true, true_and, implies_true, forall_const, ↓reduceIte, Bool.false_eq_true, i10, i10n]
    refine ⟨fun g => by omega, fun _ => d_beside h ok hc (by omega) ?_⟩
    have ih := ih (d + 1) (by omega)
    cases hb : x.nb c d with
    | none =>
      simp only [eX7_areNeighbours_0, eX7_areNeighbours_1, eX7_areNeighbours_2, eX7_areNeighbours_3, eX7_areNeighbours_4, eX7_areNeighbours_7, eX7_areNeighbours_10, eX7_areNeighbours_11, eX7_areNeighbours_15, eX7_areNeighbours_16, eX7_areNeighbours_19, eX7_areNeighbours_22, eX7_areNeighbours_23, eX7_areNeighbours_26, eX7_areNeighbours_27, eX7_areNeighbours_28, eX7_areNeighbours_29, eX7_areNeighbours_32, eX7_areNeighbours_33, eX7_areNeighbours_34, eX7_areNeighbours_36, eX7_areNeighbours_39, eX7_areNeighbours_41, eX7_areNeighbours_43, eX7_areNeighbours_46, eX7_areNeighbours_47, eX7_areNeighbours_50, eX7_areNeighbours_52, eX7_areNeighbours_53, eX7_areNeighbours_54, eX7_areNeighbours_57, eX7_areNeighbours_58, eX7_areNeighbours_59, eX7_areNeighbours_62, eX7_areNeighbours_68, eX7_areNeighbours_71, eX7_areNeighbours_72, Nat.add_zero, Nat.reduceAdd, Nat.reduceLeDiff, Nat.zero_le, and_true, o_aload_0r, o_callV_0, o_callV_2, o_const_e, o_getf_e, o_goto_e, o_iald_e, o_iald_f, o_icmp_e, o_if_e, o_iinc_3, o_iinc_4, o_iload_1, o_iload_2, o_iload_3, o_iload_4, o_iload_5, o_ist_3, o_ist_4, o_ist_5, o_zret_0, o_zret_1, tl_n, tl_s, true_and, xnlv_i, xnlv_n, xnlv_r, xwt_0, xwt_f, xwt_i, xwt_l, xwt_r, bkV, n1, nI_add]
      refine ⟨fun _ => ih (fun d' hd' o ho => ?_) _, fun g => absurd (by decide) g⟩
      by_cases e : d' = d
      · subst e; rw [hb] at ho; cases ho
      · exact hN d' (by omega) o ho
    | some o =>
      have ho := sLat.nb_lt ok hb
      have e2 := hG.gc ok ho
      have l2 := gn_lt ho
      rw [show bkV (some o) = nI o from rfl]
      simp only [eX7_areNeighbours_0, eX7_areNeighbours_1, eX7_areNeighbours_2, eX7_areNeighbours_3, eX7_areNeighbours_4, eX7_areNeighbours_7, eX7_areNeighbours_10, eX7_areNeighbours_11, eX7_areNeighbours_15, eX7_areNeighbours_16, eX7_areNeighbours_19, eX7_areNeighbours_22, eX7_areNeighbours_23, eX7_areNeighbours_26, eX7_areNeighbours_27, eX7_areNeighbours_28, eX7_areNeighbours_29, eX7_areNeighbours_32, eX7_areNeighbours_33, eX7_areNeighbours_34, eX7_areNeighbours_36, eX7_areNeighbours_39, eX7_areNeighbours_41, eX7_areNeighbours_43, eX7_areNeighbours_46, eX7_areNeighbours_47, eX7_areNeighbours_50, eX7_areNeighbours_52, eX7_areNeighbours_53, eX7_areNeighbours_54, eX7_areNeighbours_57, eX7_areNeighbours_58, eX7_areNeighbours_59, eX7_areNeighbours_62, eX7_areNeighbours_68, eX7_areNeighbours_71, eX7_areNeighbours_72, Nat.add_zero, Nat.reduceAdd, Nat.reduceLeDiff, Nat.zero_le, and_true, o_aload_0r, o_callV_0, o_callV_2, o_const_e, o_getf_e, o_goto_e, o_iald_e, o_iald_f, o_icmp_e, o_if_e, o_iinc_3, o_iinc_4, o_iload_1, o_iload_2, o_iload_3, o_iload_4, o_iload_5, o_ist_3, o_ist_4, o_ist_5, o_zret_0, o_zret_1, tl_n, tl_s, true_and, xnlv_i, xnlv_n, xnlv_r, xwt_0, xwt_f, xwt_i, xwt_l, xwt_r, lt0_nI (a := o) (by omega), not_true_eq_false, not_false_eq_true, true_implies, false_implies, and_true, true_and, implies_true, forall_const, ↓reduceIte, Bool.false_eq_true, i10, i10n, h.1.cls, h.1.g0, h.1.g1, h.1.g2, h.1.g3, h.1.g4, h.1.g5, h.1.g6, h.1.g7, h.1.g8, h.1.g9, h.1.g10, h.1.g11, h.1.g12, h.1.g13, h.1.g14, h.1.g15, h.1.g16, h.1.g17, h.1.g18, h.1.g19, h.i0, h.i1, h.i2, h.i3, h.i4, h.i5, h.i6, h.i7, h.i8, h.i9, h.i10, h.j0, h.j1, h.j2, h.j3, h.j4, h.j5, h.j6, h.j7, h.j8, h.j9, h.j10, h.1.r_go (c := o) (by omega), e2, eq_nI (a := x.gn o) (b := g) (by omega) (by omega)]
      refine ⟨fun g1 => ?_, fun g1 => k1 ((ms_iff ok).mpr ⟨c, hc, d, by omega, o, hb, fun z => hga ?_, hca, Classical.not_not.mp g1⟩)⟩
      · rw [n1, nI_add]
        refine ih (fun d' hd' o' ho' => ?_) _
        by_cases e : d' = d
        · subst e; rw [hb] at ho'; cases ho'; exact g1
        · exact hN d' (by omega) o' ho'
      · rw [← hca, ← z]
        exact (Classical.not_not.mp g1).symm
theorem k_are2 (h : MoL AH m s x r) (ok : x.ok) (hG : MgOK x s) {a g : Nat} (hga : g ≠ a) (hg : g < x.gT) (ha : a < x.gT) {Q : xQ} (k : Q (some (.int (if (x.ms a).testBit g = true then 1 else 0))) AH (0, 0)) : ∀ (n c : Nat), c + n = x.n → (∀ c', c' < c → ∀ d', d' < x.nd → ∀ o, x.nb c' d' = some o → x.gn c' = a → x.gn o ≠ g) → ∀ w4 w : Option Value, xnlv w4 →
    XR TX7_areNeighbours 2 [some (.ref m), some (.int (nI a)), some (.int (nI g)), some (.int (nI c)), w4, w] [] AH (0, 0) Q := by
  have hn := sLat.n36 ok
  have hnd := sLat.nd4 (x := x)
  have hnd8 := sLat.nd8 (x := x)
  have hgt := sLat.gT_le (x := x)
  intro n
  induction n with
  | zero =>
    intro c hc hN w4 w v4
    rw [eX7_areNeighbours_2]
    simp only [eX7_areNeighbours_0, eX7_areNeighbours_1, eX7_areNeighbours_3, eX7_areNeighbours_4, eX7_areNeighbours_7, eX7_areNeighbours_10, eX7_areNeighbours_11, eX7_areNeighbours_15, eX7_areNeighbours_16, eX7_areNeighbours_19, eX7_areNeighbours_22, eX7_areNeighbours_23, eX7_areNeighbours_26, eX7_areNeighbours_27, eX7_areNeighbours_28, eX7_areNeighbours_29, eX7_areNeighbours_32, eX7_areNeighbours_33, eX7_areNeighbours_34, eX7_areNeighbours_36, eX7_areNeighbours_39, eX7_areNeighbours_41, eX7_areNeighbours_43, eX7_areNeighbours_46, eX7_areNeighbours_47, eX7_areNeighbours_50, eX7_areNeighbours_52, eX7_areNeighbours_53, eX7_areNeighbours_54, eX7_areNeighbours_57, eX7_areNeighbours_58, eX7_areNeighbours_59, eX7_areNeighbours_62, eX7_areNeighbours_65, eX7_areNeighbours_68, eX7_areNeighbours_71, eX7_areNeighbours_72, Nat.add_zero, Nat.reduceAdd, Nat.reduceLeDiff, Nat.zero_le, and_true, o_aload_0r, o_callV_0, o_callV_2, o_const_e, o_getf_e, o_goto_e, o_iald_e, o_iald_f, o_icmp_e, o_if_e, o_iinc_3, o_iinc_4, o_iload_1, o_iload_2, o_iload_3, o_iload_4, o_iload_5, o_ist_3, o_ist_4, o_ist_5, o_zret_0, o_zret_1, tl_n, tl_s, true_and, xnlv_i, xnlv_n, xnlv_r, xwt_0, xwt_f, xwt_i, xwt_l, xwt_r, h.1.cls, h.1.g0, h.1.g1, h.1.g2, h.1.g3, h.1.g4, h.1.g5, h.1.g6, h.1.g7, h.1.g8, h.1.g9, h.1.g10, h.1.g11, h.1.g12, h.1.g13, h.1.g14, h.1.g15, h.1.g16, h.1.g17, h.1.g18, h.1.g19, h.i0, h.i1, h.i2, h.i3, h.i4, h.i5, h.i6, h.i7, h.i8, h.i9, h.i10, h.j0, h.j1, h.j2, h.j3, h.j4, h.j5, h.j6, h.j7, h.j8, h.j9, h.j10]
    refine d_cells h ?_
    simp only [eX7_areNeighbours_0, eX7_areNeighbours_1, eX7_areNeighbours_3, eX7_areNeighbours_4, eX7_areNeighbours_7, eX7_areNeighbours_10, eX7_areNeighbours_11, eX7_areNeighbours_15, eX7_areNeighbours_16, eX7_areNeighbours_19, eX7_areNeighbours_22, eX7_areNeighbours_23, eX7_areNeighbours_26, eX7_areNeighbours_27, eX7_areNeighbours_28, eX7_areNeighbours_29, eX7_areNeighbours_32, eX7_areNeighbours_33, eX7_areNeighbours_34, eX7_areNeighbours_36, eX7_areNeighbours_39, eX7_areNeighbours_41, eX7_areNeighbours_43, eX7_areNeighbours_46, eX7_areNeighbours_47, eX7_areNeighbours_50, eX7_areNeighbours_52, eX7_areNeighbours_53, eX7_areNeighbours_54, eX7_areNeighbours_57, eX7_areNeighbours_58, eX7_areNeighbours_59, eX7_areNeighbours_62, eX7_areNeighbours_65, eX7_areNeighbours_68, eX7_areNeighbours_71, eX7_areNeighbours_72, Nat.add_zero, Nat.reduceAdd, Nat.reduceLeDiff, Nat.zero_le, and_true, o_aload_0r, o_callV_0, o_callV_2, o_const_e, o_getf_e, o_goto_e, o_iald_e, o_iald_f, o_icmp_e, o_if_e, o_iinc_3, o_iinc_4, o_iload_1, o_iload_2, o_iload_3, o_iload_4, o_iload_5, o_ist_3, o_ist_4, o_ist_5, o_zret_0, o_zret_1, tl_n, tl_s, true_and, xnlv_i, xnlv_n, xnlv_r, xwt_0, xwt_f, xwt_i, xwt_l, xwt_r, le_nI (a := x.n) (b := c) (by omega) (by omega)]
    refine ⟨fun _ => ?_, fun g => by omega⟩
    rw [if_neg] at k
    · exact k
    · intro z
      obtain ⟨c', h1, d', h2, o, h3, _, h5, h6⟩ := (ms_iff ok).mp z
      exact hN c' (by omega) d' h2 o h3 h5 h6
  | succ n ih =>
    intro c hc hN w4 w v4
    have e1 := hG.gc ok (c := c) (by omega)
    have l1 := gn_lt (x := x) (c := c) (by omega)
    rw [eX7_areNeighbours_2]
    simp only [eX7_areNeighbours_0, eX7_areNeighbours_1, eX7_areNeighbours_3, eX7_areNeighbours_4, eX7_areNeighbours_7, eX7_areNeighbours_10, eX7_areNeighbours_11, eX7_areNeighbours_15, eX7_areNeighbours_16, eX7_areNeighbours_19, eX7_areNeighbours_22, eX7_areNeighbours_23, eX7_areNeighbours_26, eX7_areNeighbours_27, eX7_areNeighbours_28, eX7_areNeighbours_29, eX7_areNeighbours_32, eX7_areNeighbours_33, eX7_areNeighbours_34, eX7_areNeighbours_36, eX7_areNeighbours_39, eX7_areNeighbours_41, eX7_areNeighbours_43, eX7_areNeighbours_46, eX7_areNeighbours_47, eX7_areNeighbours_50, eX7_areNeighbours_52, eX7_areNeighbours_53, eX7_areNeighbours_54, eX7_areNeighbours_57, eX7_areNeighbours_58, eX7_areNeighbours_59, eX7_areNeighbours_62, eX7_areNeighbours_65, eX7_areNeighbours_68, eX7_areNeighbours_71, eX7_areNeighbours_72, Nat.add_zero, Nat.reduceAdd, Nat.reduceLeDiff, Nat.zero_le, and_true, o_aload_0r, o_callV_0, o_callV_2, o_const_e, o_getf_e, o_goto_e, o_iald_e, o_iald_f, o_icmp_e, o_if_e, o_iinc_3, o_iinc_4, o_iload_1, o_iload_2, o_iload_3, o_iload_4, o_iload_5, o_ist_3, o_ist_4, o_ist_5, o_zret_0, o_zret_1, tl_n, tl_s, true_and, xnlv_i, xnlv_n, xnlv_r, xwt_0, xwt_f, xwt_i, xwt_l, xwt_r, h.1.cls, h.1.g0, h.1.g1, h.1.g2, h.1.g3, h.1.g4, h.1.g5, h.1.g6, h.1.g7, h.1.g8, h.1.g9, h.1.g10, h.1.g11, h.1.g12, h.1.g13, h.1.g14, h.1.g15, h.1.g16, h.1.g17, h.1.g18, h.1.g19, h.i0, h.i1, h.i2, h.i3, h.i4, h.i5, h.i6, h.i7, h.i8, h.i9, h.i10, h.j0, h.j1, h.j2, h.j3, h.j4, h.j5, h.j6, h.j7, h.j8, h.j9, h.j10]
    refine d_cells h ?_
    simp only [eX7_areNeighbours_0, eX7_areNeighbours_1, eX7_areNeighbours_3, eX7_areNeighbours_4, eX7_areNeighbours_7, eX7_areNeighbours_10, eX7_areNeighbours_11, eX7_areNeighbours_15, eX7_areNeighbours_16, eX7_areNeighbours_19, eX7_areNeighbours_22, eX7_areNeighbours_23, eX7_areNeighbours_26, eX7_areNeighbours_27, eX7_areNeighbours_28, eX7_areNeighbours_29, eX7_areNeighbours_32, eX7_areNeighbours_33, eX7_areNeighbours_34, eX7_areNeighbours_36, eX7_areNeighbours_39, eX7_areNeighbours_41, eX7_areNeighbours_43, eX7_areNeighbours_46, eX7_areNeighbours_47, eX7_areNeighbours_50, eX7_areNeighbours_52, eX7_areNeighbours_53, eX7_areNeighbours_54, eX7_areNeighbours_57, eX7_areNeighbours_58, eX7_areNeighbours_59, eX7_areNeighbours_62, eX7_areNeighbours_65, eX7_areNeighbours_68, eX7_areNeighbours_71, eX7_areNeighbours_72, Nat.add_zero, Nat.reduceAdd, Nat.reduceLeDiff, Nat.zero_le, and_true, o_aload_0r, o_callV_0, o_callV_2, o_const_e, o_getf_e, o_goto_e, o_iald_e, o_iald_f, o_icmp_e, o_if_e, o_iinc_3, o_iinc_4, o_iload_1, o_iload_2, o_iload_3, o_iload_4, o_iload_5, o_ist_3, o_ist_4, o_ist_5, o_zret_0, o_zret_1, tl_n, tl_s, true_and, xnlv_i, xnlv_n, xnlv_r, xwt_0, xwt_f, xwt_i, xwt_l, xwt_r, le_nI (a := x.n) (b := c) (by omega) (by omega), v4]
    refine ⟨fun g => by omega, fun _ => ?_⟩
    by_cases ec : x.gn c = a
    · refine k_are1 h ok hG hga hg (by omega) ec (fun z => by rw [if_pos z] at k; exact k) (fun hN2 w => ?_) x.nd 0 (by omega) (fun d' hd' => by omega) w
      simp only [eX7_areNeighbours_0, eX7_areNeighbours_1, eX7_areNeighbours_3, eX7_areNeighbours_4, eX7_areNeighbours_7, eX7_areNeighbours_10, eX7_areNeighbours_11, eX7_areNeighbours_15, eX7_areNeighbours_16, eX7_areNeighbours_19, eX7_areNeighbours_22, eX7_areNeighbours_23, eX7_areNeighbours_26, eX7_areNeighbours_27, eX7_areNeighbours_28, eX7_areNeighbours_29, eX7_areNeighbours_32, eX7_areNeighbours_33, eX7_areNeighbours_34, eX7_areNeighbours_36, eX7_areNeighbours_39, eX7_areNeighbours_41, eX7_areNeighbours_43, eX7_areNeighbours_46, eX7_areNeighbours_47, eX7_areNeighbours_50, eX7_areNeighbours_52, eX7_areNeighbours_53, eX7_areNeighbours_54, eX7_areNeighbours_57, eX7_areNeighbours_58, eX7_areNeighbours_59, eX7_areNeighbours_62, eX7_areNeighbours_65, eX7_areNeighbours_68, eX7_areNeighbours_71, eX7_areNeighbours_72, Nat.add_zero, Nat.reduceAdd, Nat.reduceLeDiff, Nat.zero_le, and_true, o_aload_0r, o_callV_0, o_callV_2, o_const_e, o_getf_e, o_goto_e, o_iald_e, o_iald_f, o_icmp_e, o_if_e, o_iinc_3, o_iinc_4, o_iload_1, o_iload_2, o_iload_3, o_iload_4, o_iload_5, o_ist_3, o_ist_4, o_ist_5, o_zret_0, o_zret_1, tl_n, tl_s, true_and, xnlv_i, xnlv_n, xnlv_r, xwt_0, xwt_f, xwt_i, xwt_l, xwt_r, n1, nI_add]
      refine ih (c + 1) (by omega) (fun c' hc' d' hd' o ho hca => ?_) _ _ trivial
      by_cases e : c' = c
      · subst e; exact hN2 d' hd' o ho
      · exact hN c' (by omega) d' hd' o ho hca
    · rw [eX7_areNeighbours_13]
      simp only [eX7_areNeighbours_0, eX7_areNeighbours_1, eX7_areNeighbours_3, eX7_areNeighbours_4, eX7_areNeighbours_7, eX7_areNeighbours_10, eX7_areNeighbours_11, eX7_areNeighbours_15, eX7_areNeighbours_16, eX7_areNeighbours_19, eX7_areNeighbours_22, eX7_areNeighbours_23, eX7_areNeighbours_26, eX7_areNeighbours_27, eX7_areNeighbours_28, eX7_areNeighbours_29, eX7_areNeighbours_32, eX7_areNeighbours_33, eX7_areNeighbours_34, eX7_areNeighbours_36, eX7_areNeighbours_39, eX7_areNeighbours_41, eX7_areNeighbours_43, eX7_areNeighbours_46, eX7_areNeighbours_47, eX7_areNeighbours_50, eX7_areNeighbours_52, eX7_areNeighbours_53, eX7_areNeighbours_54, eX7_areNeighbours_57, eX7_areNeighbours_58, eX7_areNeighbours_59, eX7_areNeighbours_62, eX7_areNeighbours_65, eX7_areNeighbours_68, eX7_areNeighbours_71, eX7_areNeighbours_72, Nat.add_zero, Nat.reduceAdd, Nat.reduceLeDiff, Nat.zero_le, and_true, o_aload_0r, o_callV_0, o_callV_2, o_const_e, o_getf_e, o_goto_e, o_iald_e, o_iald_f, o_icmp_e, o_if_e, o_iinc_3, o_iinc_4, o_iload_1, o_iload_2, o_iload_3, o_iload_4, o_iload_5, o_ist_3, o_ist_4, o_ist_5, o_zret_0, o_zret_1, tl_n, tl_s, true_and, xnlv_i, xnlv_n, xnlv_r, xwt_0, xwt_f, xwt_i, xwt_l, xwt_r, h.1.cls, h.1.g0, h.1.g1, h.1.g2, h.1.g3, h.1.g4, h.1.g5, h.1.g6, h.1.g7, h.1.g8, h.1.g9, h.1.g10, h.1.g11, h.1.g12, h.1.g13, h.1.g14, h.1.g15, h.1.g16, h.1.g17, h.1.g18, h.1.g19, h.i0, h.i1, h.i2, h.i3, h.i4, h.i5, h.i6, h.i7, h.i8, h.i9, h.i10, h.j0, h.j1, h.j2, h.j3, h.j4, h.j5, h.j6, h.j7, h.j8, h.j9, h.j10]
      refine d_directions h ok ?_
      simp only [eX7_areNeighbours_0, eX7_areNeighbours_1, eX7_areNeighbours_3, eX7_areNeighbours_4, eX7_areNeighbours_7, eX7_areNeighbours_10, eX7_areNeighbours_11, eX7_areNeighbours_15, eX7_areNeighbours_16, eX7_areNeighbours_19, eX7_areNeighbours_22, eX7_areNeighbours_23, eX7_areNeighbours_26, eX7_areNeighbours_27, eX7_areNeighbours_28, eX7_areNeighbours_29, eX7_areNeighbours_32, eX7_areNeighbours_33, eX7_areNeighbours_34, eX7_areNeighbours_36, eX7_areNeighbours_39, eX7_areNeighbours_41, eX7_areNeighbours_43, eX7_areNeighbours_46, eX7_areNeighbours_47, eX7_areNeighbours_50, eX7_areNeighbours_52, eX7_areNeighbours_53, eX7_areNeighbours_54, eX7_areNeighbours_57, eX7_areNeighbours_58, eX7_areNeighbours_59, eX7_areNeighbours_62, eX7_areNeighbours_65, eX7_areNeighbours_68, eX7_areNeighbours_71, eX7_areNeighbours_72, Nat.add_zero, Nat.reduceAdd, Nat.reduceLeDiff, Nat.zero_le, and_true, o_aload_0r, o_callV_0, o_callV_2, o_const_e, o_getf_e, o_goto_e, o_iald_e, o_iald_f, o_icmp_e, o_if_e, o_iinc_3, o_iinc_4, o_iload_1, o_iload_2, o_iload_3, o_iload_4, o_iload_5, o_ist_3, o_ist_4, o_ist_5, o_zret_0, o_zret_1, tl_n, tl_s, true_and, xnlv_i, xnlv_n, xnlv_r, xwt_0, xwt_f, xwt_i, xwt_l, xwt_r, z_nI, le_nI (a := x.nd) (b := 0) (by omega) (by omega), h.1.cls, h.1.g0, h.1.g1, h.1.g2, h.1.g3, h.1.g4, h.1.g5, h.1.g6, h.1.g7, h.1.g8, h.1.g9, h.1.g10, h.1.g11, h.1.g12, h.1.g13, h.1.g14, h.1.g15, h.1.g16, h.1.g17, h.1.g18, h.1.g19, h.i0, h.i1, h.i2, h.i3, h.i4, h.i5, h.i6, h.i7, h.i8, h.i9, h.i10, h.j0, h.j1, h.j2, h.j3, h.j4, h.j5, h.j6, h.j7, h.j8, h.j9, h.j10, h.1.r_go (c := c) (by omega), e1, eq_nI (a := x.gn c) (b := a) (by omega) (by omega)]
      refine ⟨fun g => by omega, fun _ => ⟨fun _ => ?_, fun g => absurd (Classical.not_not.mp g) ec⟩⟩
      rw [n1, nI_add]
      refine ih (c + 1) (by omega) (fun c' hc' d' hd' o ho hca => ?_) _ _ trivial
      by_cases e : c' = c
      · subst e; exact absurd hca ec
      · exact hN c' (by omega) d' hd' o ho hca
/-- areNeighbours(a, g) -/
theorem d_are (h : MoL AH m s x r) (ok : x.ok) (hG : MgOK x s) {a g : Nat} (hga : g ≠ a) (hg : g < x.gT) (ha : a < x.gT) {Q : Option Value → xH → Prop} (k : Q (some (.int (if (x.ms a).testBit g = true then 1 else 0))) AH) : XC MX7_areNeighbours [.ref m, .int (nI a), .int (nI g)] AH Q := by
  refine XC.ofR (L := [some (.ref m), some (.int (nI a)), some (.int (nI g)), none, none, none]) KX7_areNeighbours (by decide +kernel) (by first | decide | exact Nat.le_of_ble_eq_true rfl) rfl ?_
  simp only [eX7_areNeighbours_0, eX7_areNeighbours_1, eX7_areNeighbours_3, eX7_areNeighbours_4, eX7_areNeighbours_7, eX7_areNeighbours_10, eX7_areNeighbours_11, eX7_areNeighbours_13, eX7_areNeighbours_15, eX7_areNeighbours_16, eX7_areNeighbours_19, eX7_areNeighbours_22, eX7_areNeighbours_23, eX7_areNeighbours_26, eX7_areNeighbours_27, eX7_areNeighbours_28, eX7_areNeighbours_29, eX7_areNeighbours_32, eX7_areNeighbours_33, eX7_areNeighbours_34, eX7_areNeighbours_36, eX7_areNeighbours_39, eX7_areNeighbours_41, eX7_areNeighbours_43, eX7_areNeighbours_46, eX7_areNeighbours_47, eX7_areNeighbours_50, eX7_areNeighbours_52, eX7_areNeighbours_53, eX7_areNeighbours_54, eX7_areNeighbours_57, eX7_areNeighbours_58, eX7_areNeighbours_59, eX7_areNeighbours_62, eX7_areNeighbours_65, eX7_areNeighbours_68, eX7_areNeighbours_71, eX7_areNeighbours_72, Nat.add_zero, Nat.reduceAdd, Nat.reduceLeDiff, Nat.zero_le, and_true, o_aload_0r, o_callV_0, o_callV_2, o_const_e, o_getf_e, o_goto_e, o_iald_e, o_iald_f, o_icmp_e, o_if_e, o_iinc_3, o_iinc_4, o_iload_1, o_iload_2, o_iload_3, o_iload_4, o_iload_5, o_ist_3, o_ist_4, o_ist_5, o_zret_0, o_zret_1, tl_n, tl_s, true_and, xnlv_i, xnlv_n, xnlv_r, xwt_0, xwt_f, xwt_i, xwt_l, xwt_r]
  exact k_are2 h ok hG hga hg ha k x.n 0 (by omega) (fun c' hc' => by omega) none none trivial
theorem k_nbr (h : MoL AH m s x r) (ok : x.ok) (hG : MgOK x s) {a : Nat} (ha : a < x.gT) {Q : xQ} (k : Q (some (.int (nI (x.nbr a)))) AH (0, 0)) : ∀ (n j : Nat), j + n = x.gT →
    XR TX7_neighbours 4 [some (.ref m), some (.int (nI a)), some (.int (nI (sm (fun i => if i ≠ a ∧ (x.ms a).testBit i = true then 1 else 0) j))), some (.int (nI j))] [] AH (0, 0) Q := by
  have hn := sLat.n36 ok
  have hgt := sLat.gT_le (x := x)
  have ett := hG.2.2.2
  intro n
  induction n with
  | zero =>
    intro j hj
    rw [eX7_neighbours_4]
    simp only [eX7_neighbours_0, eX7_neighbours_1, eX7_neighbours_2, eX7_neighbours_3, eX7_neighbours_5, eX7_neighbours_6, eX7_neighbours_9, eX7_neighbours_12, eX7_neighbours_13, eX7_neighbours_14, eX7_neighbours_15, eX7_neighbours_18, eX7_neighbours_19, eX7_neighbours_20, eX7_neighbours_21, eX7_neighbours_24, eX7_neighbours_27, eX7_neighbours_28, eX7_neighbours_31, eX7_neighbours_32, eX7_neighbours_33, eX7_neighbours_34, eX7_neighbours_37, eX7_neighbours_40, eX7_neighbours_41, Nat.add_zero, Nat.reduceAdd, Nat.reduceLeDiff, Nat.zero_le, and_true, o_aload_0r, o_callV_2, o_const_e, o_getf_e, o_goto_e, o_icmp_e, o_if_e, o_ii_e, o_iinc_3, o_iload_1, o_iload_2, o_iload_3, o_iret_e, o_ist_2, o_ist_3, tl_n, tl_s, true_and, xnlv_i, xnlv_n, xnlv_r, xwt_0, xwt_f, xwt_i, xwt_l, xwt_r, h.1.cls, h.1.g0, h.1.g1, h.1.g2, h.1.g3, h.1.g4, h.1.g5, h.1.g6, h.1.g7, h.1.g8, h.1.g9, h.1.g10, h.1.g11, h.1.g12, h.1.g13, h.1.g14, h.1.g15, h.1.g16, h.1.g17, h.1.g18, h.1.g19, h.i0, h.i1, h.i2, h.i3, h.i4, h.i5, h.i6, h.i7, h.i8, h.i9, h.i10, h.j0, h.j1, h.j2, h.j3, h.j4, h.j5, h.j6, h.j7, h.j8, h.j9, h.j10, ett, le_nI (a := x.gT) (b := j) (by omega) (by omega)]
    refine ⟨fun _ => ?_, fun g => by omega⟩
    rw [show j = x.gT by omega, ← nbr_eq ok]
    exact k
  | succ n ih =>
    intro j hj
    have this := ih (j + 1) (by omega)
    rw [sm] at this
    rw [eX7_neighbours_4]
    simp only [eX7_neighbours_0, eX7_neighbours_1, eX7_neighbours_2, eX7_neighbours_3, eX7_neighbours_5, eX7_neighbours_6, eX7_neighbours_9, eX7_neighbours_12, eX7_neighbours_13, eX7_neighbours_14, eX7_neighbours_15, eX7_neighbours_18, eX7_neighbours_19, eX7_neighbours_20, eX7_neighbours_21, eX7_neighbours_24, eX7_neighbours_27, eX7_neighbours_28, eX7_neighbours_31, eX7_neighbours_32, eX7_neighbours_33, eX7_neighbours_34, eX7_neighbours_37, eX7_neighbours_40, eX7_neighbours_41, Nat.add_zero, Nat.reduceAdd, Nat.reduceLeDiff, Nat.zero_le, and_true, o_aload_0r, o_callV_2, o_const_e, o_getf_e, o_goto_e, o_icmp_e, o_if_e, o_ii_e, o_iinc_3, o_iload_1, o_iload_2, o_iload_3, o_iret_e, o_ist_2, o_ist_3, tl_n, tl_s, true_and, xnlv_i, xnlv_n, xnlv_r, xwt_0, xwt_f, xwt_i, xwt_l, xwt_r, h.1.cls, h.1.g0, h.1.g1, h.1.g2, h.1.g3, h.1.g4, h.1.g5, h.1.g6, h.1.g7, h.1.g8, h.1.g9, h.1.g10, h.1.g11, h.1.g12, h.1.g13, h.1.g14, h.1.g15, h.1.g16, h.1.g17, h.1.g18, h.1.g19, h.i0, h.i1, h.i2, h.i3, h.i4, h.i5, h.i6, h.i7, h.i8, h.i9, h.i10, h.j0, h.j1, h.j2, h.j3, h.j4, h.j5, h.j6, h.j7, h.j8, h.j9, h.j10, ett, le_nI (a := x.gT) (b := j) (by omega) (by omega), eq_nI (a := j) (b := a) (by omega) (by omega)]
    refine ⟨fun g => by omega, fun _ => ⟨fun g1 => ?_, fun g1 => d_are h ok hG g1 (by omega) ha ?_⟩⟩
    · rw [if_neg (fun z => z.1 g1)] at this
      simp only [eX7_neighbours_0, eX7_neighbours_1, eX7_neighbours_2, eX7_neighbours_3, eX7_neighbours_5, eX7_neighbours_6, eX7_neighbours_9, eX7_neighbours_12, eX7_neighbours_13, eX7_neighbours_14, eX7_neighbours_15, eX7_neighbours_18, eX7_neighbours_19, eX7_neighbours_20, eX7_neighbours_21, eX7_neighbours_24, eX7_neighbours_27, eX7_neighbours_28, eX7_neighbours_31, eX7_neighbours_32, eX7_neighbours_33, eX7_neighbours_34, eX7_neighbours_37, eX7_neighbours_40, eX7_neighbours_41, Nat.add_zero, Nat.reduceAdd, Nat.reduceLeDiff, Nat.zero_le, and_true, o_aload_0r, o_callV_2, o_const_e, o_getf_e, o_goto_e, o_icmp_e, o_if_e, o_ii_e, o_iinc_3, o_iload_1, o_iload_2, o_iload_3, o_iret_e, o_ist_2, o_ist_3, tl_n, tl_s, true_and, xnlv_i, xnlv_n, xnlv_r, xwt_0, xwt_f, xwt_i, xwt_l, xwt_r, z_nI, n1, nI_add]
      exact this
    · cases hb : (x.ms a).testBit j
      · rw [if_neg (fun z => by rw [hb] at z; cases z.2)] at this
        simp only [eX7_neighbours_0, eX7_neighbours_1, eX7_neighbours_2, eX7_neighbours_3, eX7_neighbours_5, eX7_neighbours_6, eX7_neighbours_9, eX7_neighbours_12, eX7_neighbours_13, eX7_neighbours_14, eX7_neighbours_15, eX7_neighbours_18, eX7_neighbours_19, eX7_neighbours_20, eX7_neighbours_21, eX7_neighbours_24, eX7_neighbours_27, eX7_neighbours_28, eX7_neighbours_31, eX7_neighbours_32, eX7_neighbours_33, eX7_neighbours_34, eX7_neighbours_37, eX7_neighbours_40, eX7_neighbours_41, Nat.add_zero, Nat.reduceAdd, Nat.reduceLeDiff, Nat.zero_le, and_true, o_aload_0r, o_callV_2, o_const_e, o_getf_e, o_goto_e, o_icmp_e, o_if_e, o_ii_e, o_iinc_3, o_iload_1, o_iload_2, o_iload_3, o_iret_e, o_ist_2, o_ist_3, tl_n, tl_s, true_and, xnlv_i, xnlv_n, xnlv_r, xwt_0, xwt_f, xwt_i, xwt_l, xwt_r, not_true_eq_false, not_false_eq_true, true_implies, false_implies, and_true, true_and, implies_true, forall_const, ↓reduceIte, Bool.false_eq_true, i10, i10n, z_nI, n1, nI_add]
        exact this
      · rw [if_pos ⟨g1, hb⟩] at this
        simp only [eX7_neighbours_0, eX7_neighbours_1, eX7_neighbours_2, eX7_neighbours_3, eX7_neighbours_5, eX7_neighbours_6, eX7_neighbours_9, eX7_neighbours_12, eX7_neighbours_13, eX7_neighbours_14, eX7_neighbours_15, eX7_neighbours_18, eX7_neighbours_19, eX7_neighbours_20, eX7_neighbours_21, eX7_neighbours_24, eX7_neighbours_27, eX7_neighbours_28, eX7_neighbours_31, eX7_neighbours_32, eX7_neighbours_33, eX7_neighbours_34, eX7_neighbours_37, eX7_neighbours_40, eX7_neighbours_41, Nat.add_zero, Nat.reduceAdd, Nat.reduceLeDiff, Nat.zero_le, and_true, o_aload_0r, o_callV_2, o_const_e, o_getf_e, o_goto_e, o_icmp_e, o_if_e, o_ii_e, o_iinc_3, o_iload_1, o_iload_2, o_iload_3, o_iret_e, o_ist_2, o_ist_3, tl_n, tl_s, true_and, xnlv_i, xnlv_n, xnlv_r, xwt_0, xwt_f, xwt_i, xwt_l, xwt_r, not_true_eq_false, not_false_eq_true, true_implies, false_implies, and_true, true_and, implies_true, forall_const, ↓reduceIte, Bool.false_eq_true, i10, i10n, n1, nI_add]
        exact this
/-- neighbours(a) -/
theorem d_nbr (h : MoL AH m s x r) (ok : x.ok) (hG : MgOK x s) {a : Nat} (ha : a < x.gT) {Q : Option Value → xH → Prop} (k : Q (some (.int (nI (x.nbr a)))) AH) : XC MX7_neighbours [.ref m, .int (nI a)] AH Q := by
  refine XC.ofR (L := [some (.ref m), some (.int (nI a)), none, none]) KX7_neighbours (by decide +kernel) (by first | decide | exact Nat.le_of_ble_eq_true rfl) rfl ?_
  simp only [eX7_neighbours_0, eX7_neighbours_1, eX7_neighbours_2, eX7_neighbours_3, eX7_neighbours_5, eX7_neighbours_6, eX7_neighbours_9, eX7_neighbours_12, eX7_neighbours_13, eX7_neighbours_14, eX7_neighbours_15, eX7_neighbours_18, eX7_neighbours_19, eX7_neighbours_20, eX7_neighbours_21, eX7_neighbours_24, eX7_neighbours_27, eX7_neighbours_28, eX7_neighbours_31, eX7_neighbours_32, eX7_neighbours_33, eX7_neighbours_34, eX7_neighbours_37, eX7_neighbours_40, eX7_neighbours_41, Nat.add_zero, Nat.reduceAdd, Nat.reduceLeDiff, Nat.zero_le, and_true, o_aload_0r, o_callV_2, o_const_e, o_getf_e, o_goto_e, o_icmp_e, o_if_e, o_ii_e, o_iinc_3, o_iload_1, o_iload_2, o_iload_3, o_iret_e, o_ist_2, o_ist_3, tl_n, tl_s, true_and, xnlv_i, xnlv_n, xnlv_r, xwt_0, xwt_f, xwt_i, xwt_l, xwt_r]
  exact k_nbr h ok hG ha k x.gT 0 (by omega)
theorem k_isl (h : MoL AH m s x r) (ok : x.ok) (hG : MgOK x s) {Q : xQ} (k : Q (some (.int (nI (x.isl x.gT)))) AH (0, 0)) : ∀ (n j : Nat), j + n = x.gT →
    XR TX7_islands 4 [some (.ref m), some (.int (nI (x.isl j))), some (.int (nI j))] [] AH (0, 0) Q := by
  have hn := sLat.n36 ok
  have hgt := sLat.gT_le (x := x)
  have ett := hG.2.2.2
  intro n
  induction n with
  | zero =>
    intro j hj
    rw [eX7_islands_4]
    simp only [eX7_islands_0, eX7_islands_1, eX7_islands_2, eX7_islands_3, eX7_islands_5, eX7_islands_6, eX7_islands_9, eX7_islands_12, eX7_islands_13, eX7_islands_14, eX7_islands_15, eX7_islands_18, eX7_islands_19, eX7_islands_22, eX7_islands_23, eX7_islands_26, eX7_islands_27, eX7_islands_28, eX7_islands_29, eX7_islands_32, eX7_islands_35, eX7_islands_36, Nat.add_zero, Nat.reduceAdd, Nat.reduceLeDiff, Nat.zero_le, and_true, o_aload_0r, o_callV_1, o_const_e, o_getf_e, o_goto_e, o_icmp_e, o_ii_e, o_iinc_2, o_iload_1, o_iload_2, o_iret_e, o_ist_1, o_ist_2, tl_n, tl_s, true_and, xnlv_i, xnlv_n, xnlv_r, xwt_0, xwt_f, xwt_i, xwt_l, xwt_r, h.1.cls, h.1.g0, h.1.g1, h.1.g2, h.1.g3, h.1.g4, h.1.g5, h.1.g6, h.1.g7, h.1.g8, h.1.g9, h.1.g10, h.1.g11, h.1.g12, h.1.g13, h.1.g14, h.1.g15, h.1.g16, h.1.g17, h.1.g18, h.1.g19, h.i0, h.i1, h.i2, h.i3, h.i4, h.i5, h.i6, h.i7, h.i8, h.i9, h.i10, h.j0, h.j1, h.j2, h.j3, h.j4, h.j5, h.j6, h.j7, h.j8, h.j9, h.j10, ett, le_nI (a := x.gT) (b := j) (by omega) (by omega)]
    refine ⟨fun _ => ?_, fun g => by omega⟩
    rw [show j = x.gT by omega]
    exact k
  | succ n ih =>
    intro j hj
    have hb : x.nbr j ≤ 40 := bc_le (x := x.ms j) 40
    have this := ih (j + 1) (by omega)
    rw [show x.isl (j + 1) = x.isl j + (if x.nbr j = 1 then 1 else 0) from rfl] at this
    rw [eX7_islands_4]
    simp only [eX7_islands_0, eX7_islands_1, eX7_islands_2, eX7_islands_3, eX7_islands_5, eX7_islands_6, eX7_islands_9, eX7_islands_12, eX7_islands_13, eX7_islands_14, eX7_islands_15, eX7_islands_18, eX7_islands_19, eX7_islands_22, eX7_islands_23, eX7_islands_26, eX7_islands_27, eX7_islands_28, eX7_islands_29, eX7_islands_32, eX7_islands_35, eX7_islands_36, Nat.add_zero, Nat.reduceAdd, Nat.reduceLeDiff, Nat.zero_le, and_true, o_aload_0r, o_callV_1, o_const_e, o_getf_e, o_goto_e, o_icmp_e, o_ii_e, o_iinc_2, o_iload_1, o_iload_2, o_iret_e, o_ist_1, o_ist_2, tl_n, tl_s, true_and, xnlv_i, xnlv_n, xnlv_r, xwt_0, xwt_f, xwt_i, xwt_l, xwt_r, h.1.cls, h.1.g0, h.1.g1, h.1.g2, h.1.g3, h.1.g4, h.1.g5, h.1.g6, h.1.g7, h.1.g8, h.1.g9, h.1.g10, h.1.g11, h.1.g12, h.1.g13, h.1.g14, h.1.g15, h.1.g16, h.1.g17, h.1.g18, h.1.g19, h.i0, h.i1, h.i2, h.i3, h.i4, h.i5, h.i6, h.i7, h.i8, h.i9, h.i10, h.j0, h.j1, h.j2, h.j3, h.j4, h.j5, h.j6, h.j7, h.j8, h.j9, h.j10, ett, le_nI (a := x.gT) (b := j) (by omega) (by omega)]
    refine ⟨fun g => by omega, fun _ => d_nbr h ok hG (by omega) ?_⟩
    simp only [eX7_islands_0, eX7_islands_1, eX7_islands_2, eX7_islands_3, eX7_islands_5, eX7_islands_6, eX7_islands_9, eX7_islands_12, eX7_islands_13, eX7_islands_14, eX7_islands_15, eX7_islands_18, eX7_islands_19, eX7_islands_22, eX7_islands_23, eX7_islands_26, eX7_islands_27, eX7_islands_28, eX7_islands_29, eX7_islands_32, eX7_islands_35, eX7_islands_36, Nat.add_zero, Nat.reduceAdd, Nat.reduceLeDiff, Nat.zero_le, and_true, o_aload_0r, o_callV_1, o_const_e, o_getf_e, o_goto_e, o_icmp_e, o_ii_e, o_iinc_2, o_iload_1, o_iload_2, o_iret_e, o_ist_1, o_ist_2, tl_n, tl_s, true_and, xnlv_i, xnlv_n, xnlv_r, xwt_0, xwt_f, xwt_i, xwt_l, xwt_r, n1, eq_nI (a := x.nbr j) (b := 1) (by omega) (by omega), nI_add, z_nI]
    refine ⟨fun g1 => ?_, fun g1 => ?_⟩
    · rw [if_neg g1] at this
      exact this
    · rw [if_pos (Classical.not_not.mp g1)] at this
      exact this
/-- islands() -/
theorem d_isl (h : MoL AH m s x r) (ok : x.ok) (hG : MgOK x s) {Q : Option Value → xH → Prop} (k : Q (some (.int (nI (x.isl x.gT)))) AH) : XC MX7_islands [.ref m] AH Q := by
  refine XC.ofR (L := [some (.ref m), none, none]) KX7_islands (by decide +kernel) (by first | decide | exact Nat.le_of_ble_eq_true rfl) rfl ?_
  simp only [eX7_islands_0, eX7_islands_1, eX7_islands_2, eX7_islands_3, eX7_islands_5, eX7_islands_6, eX7_islands_9, eX7_islands_12, eX7_islands_13, eX7_islands_14, eX7_islands_15, eX7_islands_18, eX7_islands_19, eX7_islands_22, eX7_islands_23, eX7_islands_26, eX7_islands_27, eX7_islands_28, eX7_islands_29, eX7_islands_32, eX7_islands_35, eX7_islands_36, Nat.add_zero, Nat.reduceAdd, Nat.reduceLeDiff, Nat.zero_le, and_true, o_aload_0r, o_callV_1, o_const_e, o_getf_e, o_goto_e, o_icmp_e, o_ii_e, o_iinc_2, o_iload_1, o_iload_2, o_iret_e, o_ist_1, o_ist_2, tl_n, tl_s, true_and, xnlv_i, xnlv_n, xnlv_r, xwt_0, xwt_f, xwt_i, xwt_l, xwt_r]
  exact k_isl h ok hG k x.gT 0 (by omega)
theorem k_any {y : sLat} (h : MoL AH m s y r) (ok : x.ok) (oy : y.ok) (en : y.n = x.n) (hG : MgOK x s) {q v : Nat} (hq : q < x.gT) (hv : v < 8) {Q : xQ} (k : Q (some (.int (if x.any y q v x.n = true then 1 else 0))) AH (0, 0)) : ∀ (n j : Nat), j + n = x.n → x.any y q v j = false →
    XR TX7_hasAny 2 [some (.ref m), some (.int (nI q)), some (.int (nI v)), some (.int (nI j))] [] AH (0, 0) Q := by
  have hn := sLat.n36 ok
  have hgt := sLat.gT_le (x := x)
  intro n
  induction n with
  | zero =>
    intro j hj ha
    rw [eX7_hasAny_2]
    simp only [eX7_hasAny_0, eX7_hasAny_1, eX7_hasAny_3, eX7_hasAny_4, eX7_hasAny_7, eX7_hasAny_10, eX7_hasAny_11, eX7_hasAny_14, eX7_hasAny_15, eX7_hasAny_16, eX7_hasAny_17, eX7_hasAny_20, eX7_hasAny_21, eX7_hasAny_24, eX7_hasAny_26, eX7_hasAny_27, eX7_hasAny_28, eX7_hasAny_29, eX7_hasAny_30, eX7_hasAny_33, eX7_hasAny_34, eX7_hasAny_35, eX7_hasAny_38, eX7_hasAny_41, eX7_hasAny_42, Nat.add_zero, Nat.reduceAdd, Nat.reduceLeDiff, Nat.zero_le, and_true, o_aload_0r, o_callV_0, o_const_e, o_getf_e, o_goto_e, o_iald_e, o_iald_f, o_icmp_e, o_ii_e, o_iinc_3, o_iload_1, o_iload_2, o_iload_3, o_ist_3, o_zret_0, o_zret_1, tl_n, tl_s, true_and, xnlv_i, xnlv_n, xnlv_r, xwt_0, xwt_f, xwt_i, xwt_l, xwt_r, h.1.cls, h.1.g0, h.1.g1, h.1.g2, h.1.g3, h.1.g4, h.1.g5, h.1.g6, h.1.g7, h.1.g8, h.1.g9, h.1.g10, h.1.g11, h.1.g12, h.1.g13, h.1.g14, h.1.g15, h.1.g16, h.1.g17, h.1.g18, h.1.g19, h.i0, h.i1, h.i2, h.i3, h.i4, h.i5, h.i6, h.i7, h.i8, h.i9, h.i10, h.j0, h.j1, h.j2, h.j3, h.j4, h.j5, h.j6, h.j7, h.j8, h.j9, h.j10]
    refine d_cells h ?_
    rw [en]
    simp only [eX7_hasAny_0, eX7_hasAny_1, eX7_hasAny_3, eX7_hasAny_4, eX7_hasAny_7, eX7_hasAny_10, eX7_hasAny_11, eX7_hasAny_14, eX7_hasAny_15, eX7_hasAny_16, eX7_hasAny_17, eX7_hasAny_20, eX7_hasAny_21, eX7_hasAny_24, eX7_hasAny_26, eX7_hasAny_27, eX7_hasAny_28, eX7_hasAny_29, eX7_hasAny_30, eX7_hasAny_33, eX7_hasAny_34, eX7_hasAny_35, eX7_hasAny_38, eX7_hasAny_41, eX7_hasAny_42, Nat.add_zero, Nat.reduceAdd, Nat.reduceLeDiff, Nat.zero_le, and_true, o_aload_0r, o_callV_0, o_const_e, o_getf_e, o_goto_e, o_iald_e, o_iald_f, o_icmp_e, o_ii_e, o_iinc_3, o_iload_1, o_iload_2, o_iload_3, o_ist_3, o_zret_0, o_zret_1, tl_n, tl_s, true_and, xnlv_i, xnlv_n, xnlv_r, xwt_0, xwt_f, xwt_i, xwt_l, xwt_r, le_nI (a := x.n) (b := j) (by omega) (by omega)]
    refine ⟨fun _ => ?_, fun g => by omega⟩
    have e : j = x.n := by omega
    rw [e] at ha
    rw [ha] at k
    exact k
  | succ n ih =>
    intro j hj ha
    have e1 := hG.gc ok (c := j) (by omega)
    have s1 := gn_lt (x := x) (c := j) (by omega)
    have s2 := oy.1 j
    have this := ih (j + 1) (by omega)
    rw [show x.any y q v (j + 1) = (x.any y q v j || (x.gn j == q && y.mk j == v)) from rfl, ha, Bool.false_or] at this
    rw [eX7_hasAny_2]
    simp only [eX7_hasAny_0, eX7_hasAny_1, eX7_hasAny_3, eX7_hasAny_4, eX7_hasAny_7, eX7_hasAny_10, eX7_hasAny_11, eX7_hasAny_14, eX7_hasAny_15, eX7_hasAny_16, eX7_hasAny_17, eX7_hasAny_20, eX7_hasAny_21, eX7_hasAny_24, eX7_hasAny_26, eX7_hasAny_27, eX7_hasAny_28, eX7_hasAny_29, eX7_hasAny_30, eX7_hasAny_33, eX7_hasAny_34, eX7_hasAny_35, eX7_hasAny_38, eX7_hasAny_41, eX7_hasAny_42, Nat.add_zero, Nat.reduceAdd, Nat.reduceLeDiff, Nat.zero_le, and_true, o_aload_0r, o_callV_0, o_const_e, o_getf_e, o_goto_e, o_iald_e, o_iald_f, o_icmp_e, o_ii_e, o_iinc_3, o_iload_1, o_iload_2, o_iload_3, o_ist_3, o_zret_0, o_zret_1, tl_n, tl_s, true_and, xnlv_i, xnlv_n, xnlv_r, xwt_0, xwt_f, xwt_i, xwt_l, xwt_r, h.1.cls, h.1.g0, h.1.g1, h.1.g2, h.1.g3, h.1.g4, h.1.g5, h.1.g6, h.1.g7, h.1.g8, h.1.g9, h.1.g10, h.1.g11, h.1.g12, h.1.g13, h.1.g14, h.1.g15, h.1.g16, h.1.g17, h.1.g18, h.1.g19, h.i0, h.i1, h.i2, h.i3, h.i4, h.i5, h.i6, h.i7, h.i8, h.i9, h.i10, h.j0, h.j1, h.j2, h.j3, h.j4, h.j5, h.j6, h.j7, h.j8, h.j9, h.j10]
    refine d_cells h ?_
    rw [en]
    simp only [eX7_hasAny_0, eX7_hasAny_1, eX7_hasAny_3, eX7_hasAny_4, eX7_hasAny_7, eX7_hasAny_10, eX7_hasAny_11, eX7_hasAny_14, eX7_hasAny_15, eX7_hasAny_16, eX7_hasAny_17, eX7_hasAny_20, eX7_hasAny_21, eX7_hasAny_24, eX7_hasAny_26, eX7_hasAny_27, eX7_hasAny_28, eX7_hasAny_29, eX7_hasAny_30, eX7_hasAny_33, eX7_hasAny_34, eX7_hasAny_35, eX7_hasAny_38, eX7_hasAny_41, eX7_hasAny_42, Nat.add_zero, Nat.reduceAdd, Nat.reduceLeDiff, Nat.zero_le, and_true, o_aload_0r, o_callV_0, o_const_e, o_getf_e, o_goto_e, o_iald_e, o_iald_f, o_icmp_e, o_ii_e, o_iinc_3, o_iload_1, o_iload_2, o_iload_3, o_ist_3, o_zret_0, o_zret_1, tl_n, tl_s, true_and, xnlv_i, xnlv_n, xnlv_r, xwt_0, xwt_f, xwt_i, xwt_l, xwt_r, le_nI (a := x.n) (b := j) (by omega) (by omega), h.1.cls, h.1.g0, h.1.g1, h.1.g2, h.1.g3, h.1.g4, h.1.g5, h.1.g6, h.1.g7, h.1.g8, h.1.g9, h.1.g10, h.1.g11, h.1.g12, h.1.g13, h.1.g14, h.1.g15, h.1.g16, h.1.g17, h.1.g18, h.1.g19, h.i0, h.i1, h.i2, h.i3, h.i4, h.i5, h.i6, h.i7, h.i8, h.i9, h.i10, h.j0, h.j1, h.j2, h.j3, h.j4, h.j5, h.j6, h.j7, h.j8, h.j9, h.j10, h.1.r_go (c := j) (by omega), e1, eq_nI (a := x.gn j) (b := q) (by omega) (by omega), n1, n11, nI_add, h.rm (c := j) (by omega), eq_nI (a := y.mk j) (b := v) (by omega) (by omega)]
    refine ⟨fun g => by omega, fun _ => ⟨fun g1 => this (by simp [g1]), fun g1 => ⟨fun g2 => this (by simp [g2]), fun g2 => ?_⟩⟩⟩
    have g1 := Classical.not_not.mp g1
    have g2 := Classical.not_not.mp g2
    have : x.any y q v (j + 1) = true := by
      show (x.any y q v j || (x.gn j == q && y.mk j == v)) = true
      rw [g1, g2]
      simp
    have := any_T (x.n - (j + 1)) (j + 1) this
    rw [show j + 1 + (x.n - (j + 1)) = x.n by omega] at this
    rw [this] at k
    simp only [eX7_hasAny_0, eX7_hasAny_1, eX7_hasAny_3, eX7_hasAny_4, eX7_hasAny_7, eX7_hasAny_10, eX7_hasAny_11, eX7_hasAny_14, eX7_hasAny_15, eX7_hasAny_16, eX7_hasAny_17, eX7_hasAny_20, eX7_hasAny_21, eX7_hasAny_24, eX7_hasAny_26, eX7_hasAny_27, eX7_hasAny_28, eX7_hasAny_29, eX7_hasAny_30, eX7_hasAny_33, eX7_hasAny_34, eX7_hasAny_35, eX7_hasAny_38, eX7_hasAny_41, eX7_hasAny_42, Nat.add_zero, Nat.reduceAdd, Nat.reduceLeDiff, Nat.zero_le, and_true, o_aload_0r, o_callV_0, o_const_e, o_getf_e, o_goto_e, o_iald_e, o_iald_f, o_icmp_e, o_ii_e, o_iinc_3, o_iload_1, o_iload_2, o_iload_3, o_ist_3, o_zret_0, o_zret_1, tl_n, tl_s, true_and, xnlv_i, xnlv_n, xnlv_r, xwt_0, xwt_f, xwt_i, xwt_l, xwt_r, n1.symm]
    exact k
/-- hasAny(q, v) -/
theorem d_any {y : sLat} (h : MoL AH m s y r) (ok : x.ok) (oy : y.ok) (en : y.n = x.n) (hG : MgOK x s) {q v : Nat} (hq : q < x.gT) (hv : v < 8) {Q : Option Value → xH → Prop} (k : Q (some (.int (if x.any y q v x.n = true then 1 else 0))) AH) : XC MX7_hasAny [.ref m, .int (nI q), .int (nI v)] AH Q := by
  refine XC.ofR (L := [some (.ref m), some (.int (nI q)), some (.int (nI v)), none]) KX7_hasAny (by decide +kernel) (by first | decide | exact Nat.le_of_ble_eq_true rfl) rfl ?_
  simp only [eX7_hasAny_0, eX7_hasAny_1, eX7_hasAny_3, eX7_hasAny_4, eX7_hasAny_7, eX7_hasAny_10, eX7_hasAny_11, eX7_hasAny_14, eX7_hasAny_15, eX7_hasAny_16, eX7_hasAny_17, eX7_hasAny_20, eX7_hasAny_21, eX7_hasAny_24, eX7_hasAny_26, eX7_hasAny_27, eX7_hasAny_28, eX7_hasAny_29, eX7_hasAny_30, eX7_hasAny_33, eX7_hasAny_34, eX7_hasAny_35, eX7_hasAny_38, eX7_hasAny_41, eX7_hasAny_42, Nat.add_zero, Nat.reduceAdd, Nat.reduceLeDiff, Nat.zero_le, and_true, o_aload_0r, o_callV_0, o_const_e, o_getf_e, o_goto_e, o_iald_e, o_iald_f, o_icmp_e, o_ii_e, o_iinc_3, o_iload_1, o_iload_2, o_iload_3, o_ist_3, o_zret_0, o_zret_1, tl_n, tl_s, true_and, xnlv_i, xnlv_n, xnlv_r, xwt_0, xwt_f, xwt_i, xwt_l, xwt_r]
  exact k_any h ok oy en hG hq hv k x.n 0 (by omega) rfl
end GR5
