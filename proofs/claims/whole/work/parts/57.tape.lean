/-! tapes: the picture, the reference -/
def sTp : Type := (Nat → Int32) × (Nat → Nat) × (Nat → Nat → Int64)
def sTp.so (T : sTp) : Nat → Int32 := T.1
def sTp.sz (T : sTp) : Nat → Nat := T.2.1
def sTp.it (T : sTp) : Nat → Nat → Int64 := T.2.2
def sTp.ok (T : sTp) : Prop := ∀ t, T.sz t ≤ 60 ∧ ((T.so t = -1 ∧ T.sz t = 0) ∨ ∃ j, j < 5 ∧ T.so t = nI j)
def sTp.bec (T : sTp) (t : Nat) (s : Int32) (n : Nat) : sTp := (va_up T.so t s, va_up T.sz t n, va_up T.it t (fun _ => 0))
def sTp.put (T : sTp) (t i : Nat) (v : Int64) : sTp := (T.so, T.sz, va_up T.it t (va_up (T.it t) i v))
def sTp.shi (T : sTp) (t i o j n : Nat) : sTp := (T.so, T.sz, va_up T.it o (va_cpy (T.it t) (T.it o) i j n))
def cutV (s : Int32) (v : Int64) : Int64 := if s = 0 then v.toInt32.toInt8.toInt32.toInt64 else if s = 1 then v.toInt32.toInt16.toInt32.toInt64 else if s = 2 then v.toInt32.toInt64 else if s = 3 then v else if v = 0 then 0 else 1
def sTp.aTape (T : sTp) (t s n : Int32) : Int32 × sTp := match ix 6 t with
  | none => (-1, T)
  | some t => if s = -1 then (1, T.bec t (-1) 0) else match ix 5 s with
    | none => (-2, T)
    | some j => if n < 0 then (-14, T) else match ix 61 n with
      | none => (-2, T)
      | some n => (1, T.bec t (nI j) n)
def sTp.aItem (T : sTp) (t i : Int32) (v : Int64) : Int32 × sTp := match ix 6 t with
  | none => (-1, T)
  | some t => if T.so t = -1 then (-11, T) else match ix (T.sz t) i with
    | none => (-13, T)
    | some i => (1, T.put t i (cutV (T.so t) v))
def sTp.aPeek (T : sTp) (t i : Int32) : Int64 := match ix 6 t with
  | none => -9223372036854775808
  | some t => match ix (T.sz t) i with
    | none => -9223372036854775808
    | some i => T.it t i
def plc (z : Nat) (i n : Int32) : Option (Nat × Nat) := match ix 61 n with
  | none => none
  | some n => match ix 61 i with
    | none => none
    | some i => if i + n ≤ z then some (i, n) else none
def sTp.aShift (T : sTp) (t i o j n : Int32) : Int32 × sTp := match ix 6 t with
  | none => (-1, T)
  | some t => match ix 6 o with
    | none => (-1, T)
    | some o => if T.so t = -1 ∨ T.so o = -1 then (-11, T) else if ¬ T.so t = T.so o then (-12, T) else match plc (T.sz t) i n with
      | none => (-13, T)
      | some a => match plc (T.sz o) j n with
        | none => (-13, T)
        | some b => (n, T.shi t a.1 o b.1 a.2)
def jdF (f : Nat → Int64) (z : Nat) (x : sLat) (i : Nat) : Nat → Option Int32
  | 0 => none
  | c + 1 => match jdF f z x i c with
    | some q => some q
    | none => if z ≤ i + c then some (nI (100 + c)) else if f (i + c) = lN (x.mk c) then none else some (nI c)
def sTp.aJud (T : sTp) (x : sLat) (t i : Int32) : Int32 := match ix 6 t with
  | none => -1
  | some t => if T.so t = -1 then nI 100 else if ¬ T.so t = 0 then -12 else match ix 60 i with
    | none => nI 100
    | some i => (jdF (T.it t) (T.sz t) x i x.n).getD (-5)
theorem bec_ok {T : sTp} (h : T.ok) {t j n : Nat} (hj : j < 5) (hn : n ≤ 60) : (T.bec t (nI j) n).ok := fun u => by
  show va_up T.sz t n u ≤ 60 ∧ ((va_up T.so t (nI j) u = -1 ∧ va_up T.sz t n u = 0) ∨ ∃ j', j' < 5 ∧ va_up T.so t (nI j) u = nI j')
  unfold va_up
  by_cases e : u = t
  · rw [if_pos e, if_pos e]
    exact ⟨hn, Or.inr ⟨j, hj, rfl⟩⟩
  · rw [if_neg e, if_neg e]
    exact h u
theorem bec_ok0 {T : sTp} (h : T.ok) {t : Nat} : (T.bec t (-1) 0).ok := fun u => by
  show va_up T.sz t 0 u ≤ 60 ∧ ((va_up T.so t (-1) u = -1 ∧ va_up T.sz t 0 u = 0) ∨ ∃ j', j' < 5 ∧ va_up T.so t (-1) u = nI j')
  unfold va_up
  by_cases e : u = t
  · rw [if_pos e, if_pos e]
    exact ⟨Nat.zero_le _, Or.inl ⟨rfl, rfl⟩⟩
  · rw [if_neg e, if_neg e]
    exact h u
theorem aTape_ok {T : sTp} (h : T.ok) {t s n : Int32} : (T.aTape t s n).2.ok := by
  unfold sTp.aTape
  split
  · exact h
  · split
    · exact bec_ok0 h
    · split
      · exact h
      · rename_i j hj
        split
        · exact h
        · split
          · exact h
          · rename_i q hq
            have h1 := (ix_s (by decide) hj).1
            have h2 := (ix_s (by decide) hq).1
            exact bec_ok h h1 (by omega)
theorem aItem_ok {T : sTp} (h : T.ok) {t i : Int32} {v : Int64} : (T.aItem t i v).2.ok := by
  unfold sTp.aItem
  split
  · exact h
  · split
    · exact h
    · split
      · exact h
      · exact h
theorem aShift_ok {T : sTp} (h : T.ok) {t i o j n : Int32} : (T.aShift t i o j n).2.ok := by
  unfold sTp.aShift
  split
  · exact h
  · split
    · exact h
    · split
      · exact h
      · split
        · exact h
        · split
          · exact h
          · split
            · exact h
            · exact h
theorem jdF_some {f : Nat → Int64} {z : Nat} {x : sLat} {i k : Nat} {q : Int32} (h : jdF f z x i k = some q) : ∀ m, jdF f z x i (k + m) = some q
  | 0 => h
  | m + 1 => by
    show (match jdF f z x i (k + m) with | some q => some q | none => _) = _
    rw [jdF_some h m]
theorem jdF_hit {f : Nat → Int64} {z : Nat} {x : sLat} {i c k : Nat} {q : Int32} (h : jdF f z x i c = none) (g : (if z ≤ i + c then some (nI (100 + c)) else if f (i + c) = lN (x.mk c) then none else some (nI c)) = some q) (hk : c < k) : jdF f z x i k = some q := by
  have : jdF f z x i (c + 1) = some q := by
    unfold jdF
    rw [h]
    exact g
  have := jdF_some this (k - (c + 1))
  rw [show c + 1 + (k - (c + 1)) = k by omega] at this
  exact this
theorem jdF_s {f : Nat → Int64} {z : Nat} {x : sLat} {i c : Nat} (h : jdF f z x i c = none) (g1 : ¬ z ≤ i + c) (g2 : f (i + c) = lN (x.mk c)) : jdF f z x i (c + 1) = none := by
  unfold jdF
  rw [h]
  dsimp only
  rw [if_neg g1, if_pos g2]
/-- the reference's rows hold the tapes -/
def TpM (T : sTp) (s : sMod) : Prop := (∀ t, t < 6 → s.so t = T.so t) ∧ (∀ t, t < 6 → s.sz t = nI (T.sz t)) ∧ ∀ t i, t < 6 → i < 60 → s.it (60 * t + i) = T.it t i
def sMod.tq (s : sMod) (a b : Nat → Int32) (c : Nat → Int64) : sMod := ((s.wso a).wsz b).wit c
theorem tq_self (s : sMod) : s.tq s.so s.sz s.it = s := rfl
theorem tq_so (s : sMod) (a b : Nat → Int32) (c : Nat → Int64) : (s.tq a b c).so = a := rfl
theorem tq_sz (s : sMod) (a b : Nat → Int32) (c : Nat → Int64) : (s.tq a b c).sz = b := rfl
theorem tq_it (s : sMod) (a b : Nat → Int32) (c : Nat → Int64) : (s.tq a b c).it = c := rfl
theorem tq_nw (s : sMod) (a b : Nat → Int32) (c : Nat → Int64) : (s.tq a b c).nw = s.nw := rfl
theorem wit_tq (s : sMod) (a b : Nat → Int32) (c d : Nat → Int64) : (s.tq a b c).wit d = s.tq a b d := rfl
theorem so_tq (s : sMod) (a : Nat → Int32) : s.wso a = s.tq a s.sz s.it := rfl
theorem sz_tq (s : sMod) (a b d : Nat → Int32) (c : Nat → Int64) : (s.tq a b c).wsz d = s.tq a d c := rfl
theorem xcpyL_of {AH : xH} {a0 a1 n0 n1 sp dp m : Nat} {f g : Nat → Int64} {K : xH → Prop} (h0 : AH[a0]? = some (cL n0 f)) (h1 : AH[a1]? = some (cL n1 g)) (e0 : sp + m ≤ n0) (e1 : dp + m ≤ n1) (l0 : n0 < 2 ^ 31) (l1 : n1 < 2 ^ 31) : xcpy AH a0 (nI sp) a1 (nI dp) (nI m) K = K (AH.set a1 (cL n1 (va_cpy f g sp dp m))) := by
  unfold xcpy
  rw [h0, h1]
  simp only [nI_clamp (show sp < 2 ^ 31 by omega), nI_clamp (show dp < 2 ^ 31 by omega), nI_clamp (show m < 2 ^ 31 by omega), lt0_nI (show sp < 2 ^ 31 by omega), lt0_nI (show dp < 2 ^ 31 by omega), lt0_nI (show m < 2 ^ 31 by omega), e0, e1, not_false_eq_true, true_and]
section TAPE
variable {AH : xH} {m : Nat} {s : sMod} {x : sLat} {r : sRow} {T : sTp}
/-- in(v, lo, hi), of any ints -/
theorem d_inG {v lo hi : Int32} {Q : Option Value → xH → Prop} (k : Q (some (.int (if lo ≤ v ∧ v ≤ hi then 1 else 0))) AH) : XC MX7_in [.int v, .int lo, .int hi] AH Q := by
  refine XC.ofR (L := [some (.int v), some (.int lo), some (.int hi)]) KX7_in (by decide +kernel) (by first | decide | exact Nat.le_of_ble_eq_true rfl) rfl ?_
  simp only [eX7_in_0, eX7_in_1, eX7_in_2, eX7_in_5, eX7_in_6, eX7_in_7, eX7_in_10, eX7_in_11, eX7_in_14, eX7_in_15, o_const_e, o_goto_e, o_icmp_e, o_iload_0, o_iload_1, o_iload_2, o_zret_0, o_zret_1]
  refine ⟨fun g => ?_, fun g => ⟨fun g2 => ?_, fun g2 => ?_⟩⟩
  · rw [if_neg (fun z => by have := z.1; rw [Int32.le_iff_toInt_le] at this; rw [Int32.lt_iff_toInt_lt] at g; omega)] at k
    exact k
  · rw [if_neg (fun z => by have := z.2; rw [Int32.le_iff_toInt_le] at this; rw [Int32.lt_iff_toInt_lt] at g2; omega)] at k
    exact k
  · rw [if_pos ⟨by rw [Int32.le_iff_toInt_le]; rw [Int32.lt_iff_toInt_lt] at g; omega, by rw [Int32.le_iff_toInt_le]; rw [Int32.lt_iff_toInt_lt] at g2; omega⟩] at k
    exact k
theorem d_isTape {v : Int32} {Q : Option Value → xH → Prop} (k : Q (some (.int (if (ix 6 v).isSome then 1 else 0))) AH) : XC MX7_isTape [.int v] AH Q := by
  refine XC.ofR (L := [some (.int v)]) KX7_isTape (by decide +kernel) (by first | decide | exact Nat.le_of_ble_eq_true rfl) rfl ?_
  simp only [eX7_isTape_0, eX7_isTape_1, eX7_isTape_2, eX7_isTape_3, eX7_isTape_6, Nat.add_zero, Nat.reduceAdd, Nat.reduceLeDiff, Nat.zero_le, and_true, o_callS_3, o_const_e, o_iload_0, o_zret_0, o_zret_1, tl_n, tl_s, true_and, xwt_0, xwt_f, xwt_i, xwt_l, xwt_r]
  refine d_ix 6 (by decide) (by decide) ?_
  cases hj : (ix 6 v).isSome <;> rw [hj] at k
  · simp only [eX7_isTape_0, eX7_isTape_1, eX7_isTape_2, eX7_isTape_3, eX7_isTape_6, Nat.add_zero, Nat.reduceAdd, Nat.reduceLeDiff, Nat.zero_le, and_true, o_callS_3, o_const_e, o_iload_0, o_zret_0, o_zret_1, tl_n, tl_s, true_and, xwt_0, xwt_f, xwt_i, xwt_l, xwt_r, not_true_eq_false, not_false_eq_true, true_implies, false_implies, and_true, true_and, implies_true, forall_const, ↓reduceIte, Bool.false_eq_true, i10, i10n]
    exact k
  · simp only [eX7_isTape_0, eX7_isTape_1, eX7_isTape_2, eX7_isTape_3, eX7_isTape_6, Nat.add_zero, Nat.reduceAdd, Nat.reduceLeDiff, Nat.zero_le, and_true, o_callS_3, o_const_e, o_iload_0, o_zret_0, o_zret_1, tl_n, tl_s, true_and, xwt_0, xwt_f, xwt_i, xwt_l, xwt_r, not_true_eq_false, not_false_eq_true, true_implies, false_implies, and_true, true_and, implies_true, forall_const, ↓reduceIte, Bool.false_eq_true, i10, i10n]
    exact k
theorem m1_lt {j : Nat} (hj : j < 2 ^ 31) : (nI j = -1) = False := eq_false (fun e => by
  have := nI_pos hj
  rw [e] at this
  exact this (by decide))
theorem d_bits {sv : Int32} {v : Int64} {Q : Option Value → xH → Prop} (k : Q (some (.long (cutV sv v))) AH) : XC MX7_lowestBits [.int sv, .long v] AH Q := by
  unfold cutV at k
  refine XC.ofR (L := [some (.int sv), some (.long v), none]) KX7_lowestBits (by decide +kernel) (by first | decide | exact Nat.le_of_ble_eq_true rfl) rfl ?_
  have e0 := propext (lg_cmp_eq v 0)
  simp only [eX7_lowestBits_0, eX7_lowestBits_1, eX7_lowestBits_32, eX7_lowestBits_33, eX7_lowestBits_34, eX7_lowestBits_35, eX7_lowestBits_36, eX7_lowestBits_37, eX7_lowestBits_38, eX7_lowestBits_39, eX7_lowestBits_40, eX7_lowestBits_41, eX7_lowestBits_42, eX7_lowestBits_43, eX7_lowestBits_44, eX7_lowestBits_45, eX7_lowestBits_46, eX7_lowestBits_47, eX7_lowestBits_48, eX7_lowestBits_49, eX7_lowestBits_50, eX7_lowestBits_51, eX7_lowestBits_54, eX7_lowestBits_55, eX7_lowestBits_58, eX7_lowestBits_59, o_const_e, o_goto_e, o_i1_e, o_if_e, o_il_e, o_iload_0, o_li_e, o_lli_e, o_lload_1, o_lret_e, o_sw_e, xsw_0, xsw_1, e0]
  refine ⟨fun g => ?_, fun g0 => ⟨fun g => ?_, fun g1 => ⟨fun g => ?_, fun g2 => ⟨fun g => ?_, fun g3 => ⟨fun g => ?_, fun g => ?_⟩⟩⟩⟩⟩
  · rw [if_pos g] at k; exact k
  · rw [if_neg g0, if_pos g] at k; exact k
  · rw [if_neg g0, if_neg g1, if_pos g] at k; exact k
  · rw [if_neg g0, if_neg g1, if_neg g2, if_pos g] at k; exact k
  · rw [if_neg g0, if_neg g1, if_neg g2, if_neg g3, if_pos g] at k; exact k
  · rw [if_neg g0, if_neg g1, if_neg g2, if_neg g3, if_neg g] at k; exact k
theorem d_peek (h : ModAt AH m s) (hT : TpM T s) (ok : T.ok) {t i : Int32} {Q : Option Value → xH → Prop} (k : Q (some (.long (T.aPeek t i))) AH) : XC MX7_peek [.ref m, .int t, .int i] AH Q := by
  unfold sTp.aPeek at k
  refine XC.ofR (L := [some (.ref m), some (.int t), some (.int i)]) KX7_peek (by decide +kernel) (by first | decide | exact Nat.le_of_ble_eq_true rfl) rfl ?_
  simp only [eX7_peek_0, eX7_peek_1, eX7_peek_4, eX7_peek_7, eX7_peek_8, eX7_peek_11, eX7_peek_12, eX7_peek_13, eX7_peek_14, eX7_peek_17, eX7_peek_18, eX7_peek_19, eX7_peek_20, eX7_peek_23, eX7_peek_24, eX7_peek_25, eX7_peek_26, eX7_peek_27, eX7_peek_30, eX7_peek_33, eX7_peek_34, eX7_peek_37, eX7_peek_39, eX7_peek_40, eX7_peek_41, eX7_peek_42, eX7_peek_43, eX7_peek_44, eX7_peek_47, eX7_peek_50, Nat.add_zero, Nat.reduceAdd, Nat.reduceLeDiff, Nat.zero_le, and_true, o_aload_0r, o_callS_1, o_callS_3, o_const_e, o_getf_e, o_goto_e, o_iald_e, o_iald_f, o_icmp_e, o_if_e, o_ii_e, o_iload_1, o_iload_2, o_lald_e, o_lret_e, tl_n, tl_s, true_and, xwt_0, xwt_f, xwt_i, xwt_l, xwt_r]
  refine d_isTape ?_
  cases ht : ix 6 t with
  | none =>
    simp only [ht] at k
    simp only [eX7_peek_0, eX7_peek_1, eX7_peek_4, eX7_peek_7, eX7_peek_8, eX7_peek_11, eX7_peek_12, eX7_peek_13, eX7_peek_14, eX7_peek_17, eX7_peek_18, eX7_peek_19, eX7_peek_20, eX7_peek_23, eX7_peek_24, eX7_peek_25, eX7_peek_26, eX7_peek_27, eX7_peek_30, eX7_peek_33, eX7_peek_34, eX7_peek_37, eX7_peek_39, eX7_peek_40, eX7_peek_41, eX7_peek_42, eX7_peek_43, eX7_peek_44, eX7_peek_47, eX7_peek_50, Nat.add_zero, Nat.reduceAdd, Nat.reduceLeDiff, Nat.zero_le, and_true, o_aload_0r, o_callS_1, o_callS_3, o_const_e, o_getf_e, o_goto_e, o_iald_e, o_iald_f, o_icmp_e, o_if_e, o_ii_e, o_iload_1, o_iload_2, o_lald_e, o_lret_e, tl_n, tl_s, true_and, xwt_0, xwt_f, xwt_i, xwt_l, xwt_r, Option.isSome, not_true_eq_false, not_false_eq_true, true_implies, false_implies, and_true, true_and, implies_true, forall_const, ↓reduceIte, Bool.false_eq_true, i10, i10n]
    exact k
  | some t =>
    obtain ⟨htl, rfl⟩ := ix_s (by decide) ht
    simp only [ht] at k
    have okt := ok t
    have e1 := hT.1 t htl
    have e2 := hT.2.1 t htl
    simp only [eX7_peek_0, eX7_peek_1, eX7_peek_4, eX7_peek_7, eX7_peek_8, eX7_peek_11, eX7_peek_12, eX7_peek_13, eX7_peek_14, eX7_peek_17, eX7_peek_18, eX7_peek_19, eX7_peek_20, eX7_peek_23, eX7_peek_24, eX7_peek_25, eX7_peek_26, eX7_peek_27, eX7_peek_30, eX7_peek_33, eX7_peek_34, eX7_peek_37, eX7_peek_39, eX7_peek_40, eX7_peek_41, eX7_peek_42, eX7_peek_43, eX7_peek_44, eX7_peek_47, eX7_peek_50, Nat.add_zero, Nat.reduceAdd, Nat.reduceLeDiff, Nat.zero_le, and_true, o_aload_0r, o_callS_1, o_callS_3, o_const_e, o_getf_e, o_goto_e, o_iald_e, o_iald_f, o_icmp_e, o_if_e, o_ii_e, o_iload_1, o_iload_2, o_lald_e, o_lret_e, tl_n, tl_s, true_and, xwt_0, xwt_f, xwt_i, xwt_l, xwt_r, Option.isSome, not_true_eq_false, not_false_eq_true, true_implies, false_implies, and_true, true_and, implies_true, forall_const, ↓reduceIte, Bool.false_eq_true, i10, i10n, h.cls, h.g7, h.r_so (c := t) htl, e1]
    rcases okt.2 with ⟨g1, g2⟩ | ⟨j, hj, g1⟩
    · rw [g2, show ix 0 i = none by
        rcases ix_cases (n := 0) (by decide) i with ⟨j, h1, _⟩ | ⟨_, h⟩ | ⟨_, _, h⟩
        · omega
        · exact h
        · exact h] at k
      exact ⟨fun _ => k, fun g => absurd g1 g⟩
    · rw [g1]
      refine ⟨fun g => absurd g (by rw [m1_lt (by omega)]; exact id), fun _ => ?_⟩
      by_cases hz : T.sz t = 0
      · simp only [eX7_peek_0, eX7_peek_1, eX7_peek_4, eX7_peek_7, eX7_peek_8, eX7_peek_11, eX7_peek_12, eX7_peek_13, eX7_peek_14, eX7_peek_17, eX7_peek_18, eX7_peek_19, eX7_peek_20, eX7_peek_23, eX7_peek_24, eX7_peek_25, eX7_peek_26, eX7_peek_27, eX7_peek_30, eX7_peek_33, eX7_peek_34, eX7_peek_37, eX7_peek_39, eX7_peek_40, eX7_peek_41, eX7_peek_42, eX7_peek_43, eX7_peek_44, eX7_peek_47, eX7_peek_50, Nat.add_zero, Nat.reduceAdd, Nat.reduceLeDiff, Nat.zero_le, and_true, o_aload_0r, o_callS_1, o_callS_3, o_const_e, o_getf_e, o_goto_e, o_iald_e, o_iald_f, o_icmp_e, o_if_e, o_ii_e, o_iload_1, o_iload_2, o_lald_e, o_lret_e, tl_n, tl_s, true_and, xwt_0, xwt_f, xwt_i, xwt_l, xwt_r, h.g8, h.r_sz (c := t) htl, e2]
        refine d_inG ?_
        rw [if_neg (fun z => by
          have h1 := z.1
          have h2 := z.2
          rw [hz] at h2
          have e : (nI 0 - 1 : Int32) = -1 := by decide
          rw [e] at h2
          rw [Int32.le_iff_toInt_le] at h1 h2
          have z1 : (0 : Int32).toInt = 0 := by decide
          have z2 : (-1 : Int32).toInt = -1 := by decide
          omega)]
        rw [hz, show ix 0 i = none by
          rcases ix_cases (n := 0) (by decide) i with ⟨j, h1, _⟩ | ⟨_, h⟩ | ⟨_, _, h⟩
          · omega
          · exact h
          · exact h] at k
        simp only [eX7_peek_0, eX7_peek_1, eX7_peek_4, eX7_peek_7, eX7_peek_8, eX7_peek_11, eX7_peek_12, eX7_peek_13, eX7_peek_14, eX7_peek_17, eX7_peek_18, eX7_peek_19, eX7_peek_20, eX7_peek_23, eX7_peek_24, eX7_peek_25, eX7_peek_26, eX7_peek_27, eX7_peek_30, eX7_peek_33, eX7_peek_34, eX7_peek_37, eX7_peek_39, eX7_peek_40, eX7_peek_41, eX7_peek_42, eX7_peek_43, eX7_peek_44, eX7_peek_47, eX7_peek_50, Nat.add_zero, Nat.reduceAdd, Nat.reduceLeDiff, Nat.zero_le, and_true, o_aload_0r, o_callS_1, o_callS_3, o_const_e, o_getf_e, o_goto_e, o_iald_e, o_iald_f, o_icmp_e, o_if_e, o_ii_e, o_iload_1, o_iload_2, o_lald_e, o_lret_e, tl_n, tl_s, true_and, xwt_0, xwt_f, xwt_i, xwt_l, xwt_r, eq_self, not_true_eq_false, not_false_eq_true, true_implies, false_implies, and_true, true_and, implies_true, forall_const, ↓reduceIte, Bool.false_eq_true, i10, i10n]
        exact k
      · have hl := okt.1
        simp only [eX7_peek_0, eX7_peek_1, eX7_peek_4, eX7_peek_7, eX7_peek_8, eX7_peek_11, eX7_peek_12, eX7_peek_13, eX7_peek_14, eX7_peek_17, eX7_peek_18, eX7_peek_19, eX7_peek_20, eX7_peek_23, eX7_peek_24, eX7_peek_25, eX7_peek_26, eX7_peek_27, eX7_peek_30, eX7_peek_33, eX7_peek_34, eX7_peek_37, eX7_peek_39, eX7_peek_40, eX7_peek_41, eX7_peek_42, eX7_peek_43, eX7_peek_44, eX7_peek_47, eX7_peek_50, Nat.add_zero, Nat.reduceAdd, Nat.reduceLeDiff, Nat.zero_le, and_true, o_aload_0r, o_callS_1, o_callS_3, o_const_e, o_getf_e, o_goto_e, o_iald_e, o_iald_f, o_icmp_e, o_if_e, o_ii_e, o_iload_1, o_iload_2, o_lald_e, o_lret_e, tl_n, tl_s, true_and, xwt_0, xwt_f, xwt_i, xwt_l, xwt_r, h.g8, h.r_sz (c := t) htl, e2, n1, pk_sub (a := T.sz t) (b := 1) (by omega)]
        refine d_ix (T.sz t) (by omega) (by omega) ?_
        cases hi : ix (T.sz t) i with
        | none =>
          simp only [hi] at k
          simp only [eX7_peek_0, eX7_peek_1, eX7_peek_4, eX7_peek_7, eX7_peek_8, eX7_peek_11, eX7_peek_12, eX7_peek_13, eX7_peek_14, eX7_peek_17, eX7_peek_18, eX7_peek_19, eX7_peek_20, eX7_peek_23, eX7_peek_24, eX7_peek_25, eX7_peek_26, eX7_peek_27, eX7_peek_30, eX7_peek_33, eX7_peek_34, eX7_peek_37, eX7_peek_39, eX7_peek_40, eX7_peek_41, eX7_peek_42, eX7_peek_43, eX7_peek_44, eX7_peek_47, eX7_peek_50, Nat.add_zero, Nat.reduceAdd, Nat.reduceLeDiff, Nat.zero_le, and_true, o_aload_0r, o_callS_1, o_callS_3, o_const_e, o_getf_e, o_goto_e, o_iald_e, o_iald_f, o_icmp_e, o_if_e, o_ii_e, o_iload_1, o_iload_2, o_lald_e, o_lret_e, tl_n, tl_s, true_and, xwt_0, xwt_f, xwt_i, xwt_l, xwt_r, Option.isSome, not_true_eq_false, not_false_eq_true, true_implies, false_implies, and_true, true_and, implies_true, forall_const, ↓reduceIte, Bool.false_eq_true, i10, i10n]
          exact k
        | some i =>
          obtain ⟨hil, rfl⟩ := ix_s (by omega) hi
          simp only [hi] at k
          have e3 := hT.2.2 t i htl (by omega)
          simp only [eX7_peek_0, eX7_peek_1, eX7_peek_4, eX7_peek_7, eX7_peek_8, eX7_peek_11, eX7_peek_12, eX7_peek_13, eX7_peek_14, eX7_peek_17, eX7_peek_18, eX7_peek_19, eX7_peek_20, eX7_peek_23, eX7_peek_24, eX7_peek_25, eX7_peek_26, eX7_peek_27, eX7_peek_30, eX7_peek_33, eX7_peek_34, eX7_peek_37, eX7_peek_39, eX7_peek_40, eX7_peek_41, eX7_peek_42, eX7_peek_43, eX7_peek_44, eX7_peek_47, eX7_peek_50, Nat.add_zero, Nat.reduceAdd, Nat.reduceLeDiff, Nat.zero_le, and_true, o_aload_0r, o_callS_1, o_callS_3, o_const_e, o_getf_e, o_goto_e, o_iald_e, o_iald_f, o_icmp_e, o_if_e, o_ii_e, o_iload_1, o_iload_2, o_lald_e, o_lret_e, tl_n, tl_s, true_and, xwt_0, xwt_f, xwt_i, xwt_l, xwt_r, Option.isSome, not_true_eq_false, not_false_eq_true, true_implies, false_implies, and_true, true_and, implies_true, forall_const, ↓reduceIte, Bool.false_eq_true, i10, i10n, h.g6, n60, pk_mul, nI_add, h.r_it (c := 60 * t + i) (by omega), e3]
          exact k
end TAPE
