/-! what is told by hand -/
theorem i10n : (nI 1 = 0) = False := eq_false (by decide)
def sLat.whi (x : sLat) (h : Nat) : sLat := (x.mk, x.pn, h, x.wi, x.he, x.ne, x.ed, x.ki, x.nu, x.se)
def sLat.wwi (x : sLat) (h : Nat) : sLat := (x.mk, x.pn, x.hi, h, x.he, x.ne, x.ed, x.ki, x.nu, x.se)
def sLat.wki (x : sLat) (h : Nat) : sLat := (x.mk, x.pn, x.hi, x.wi, x.he, x.ne, x.ed, h, x.nu, x.se)
def sLat.wnu (x : sLat) (h : Nat) : sLat := (x.mk, x.pn, x.hi, x.wi, x.he, x.ne, x.ed, x.ki, h, x.se)
def sLat.amk (x : sLat) (f : Nat → Nat) : sLat := (f, x.2)
def sLat.apn (x : sLat) (f : Nat → Nat) : sLat := (x.1, f, x.2.2)
def sLat.sMark (x : sLat) (c v : Int32) : Int32 × sLat := match ix x.n c with
  | none => (-1, x)
  | some j => match ix 8 v with
    | none => (-2, x)
    | some m => if x.pn j ≠ 0 then (-3, x) else (nI (x.mk j), x.wmk j m)
def sLat.sPin (x : sLat) (c v : Int32) : Int32 × sLat := match ix x.n c with
  | none => (-1, x)
  | some j => match ix 2 v with
    | none => (-2, x)
    | some m => (nI (x.pn j), x.wpn j m)
def sLat.sTurn (x : sLat) (c : Int32) : Int32 × sLat := match ix x.n c with
  | none => (-1, x)
  | some j => (nI (x.pn j), x.wpn j (1 - x.pn j))
def sLat.sSet (x : sLat) (w v : Int32) : Int32 × sLat := match ix 3 w with
  | none => (-1, x)
  | some 0 => match ix 100 v with
    | none => (-2, x)
    | some m => (nI x.he, x.whe m)
  | some 1 => match ix 3 v with
    | none => (-2, x)
    | some m => (nI x.ne, x.wne m)
  | some _ => match ix 3 v with
    | none => (-2, x)
    | some m => (nI x.ed, x.wed m)
def sLat.sPrice (x : sLat) (w v : Int32) : Int32 × sLat := match ix 4 w with
  | none => (-1, x)
  | some j => match rg (if j = 3 then 0 else 1) (if j = 1 ∨ j = 2 then 4 else 9) v with
    | none => (-2, x)
    | some m => (nI (10 * x.ki + x.nu), x.wpr j m)
def sLat.sSize (x : sLat) (w v : Int32) : Int32 × sLat := match rg 2 6 w with
  | none => (-2, x)
  | some h => match rg 2 6 v with
    | none => (-2, x)
    | some k => (nI (10 * x.hi + x.wi), x.wsz h k)
theorem ix_s {n : Nat} (hn : n < 2 ^ 31) {v : Int32} {j : Nat} (h : ix n v = some j) : j < n ∧ v = nI j := by
  rcases ix_cases hn v with ⟨i, h1, h2, h3⟩ | ⟨_, h3⟩ | ⟨_, _, h3⟩ <;> rw [h3] at h
  · cases h; exact ⟨h1, h2⟩
  · cases h
  · cases h
theorem rg_s {lo hi : Nat} (hl : lo < 2 ^ 31) (hh : hi < 2 ^ 31) {v : Int32} {j : Nat} (h : rg lo hi v = some j) : lo ≤ j ∧ j ≤ hi ∧ v = nI j := by
  rcases rg_cases hl hh v with ⟨i, h1, h2, h4, h3⟩ | ⟨_, h3⟩ | ⟨_, _, h3⟩ <;> rw [h3] at h
  · cases h; exact ⟨h1, h2, h4⟩
  · cases h
  · cases h
theorem ok_whe {x : sLat} {m : Nat} (ok : x.ok) (h : m ≤ 99) : (x.whe m).ok := ⟨ok.1, ok.2.1, ok.2.2.1, ok.2.2.2.1, h, ok.2.2.2.2.2⟩
theorem ok_wne {x : sLat} {m : Nat} (ok : x.ok) (h : m ≤ 2) : (x.wne m).ok := ⟨ok.1, ok.2.1, ok.2.2.1, ok.2.2.2.1, ok.2.2.2.2.1, h, ok.2.2.2.2.2.2⟩
theorem ok_wed {x : sLat} {m : Nat} (ok : x.ok) (h : m ≤ 2) : (x.wed m).ok := ⟨ok.1, ok.2.1, ok.2.2.1, ok.2.2.2.1, ok.2.2.2.2.1, ok.2.2.2.2.2.1, h, ok.2.2.2.2.2.2.2⟩
theorem ok_wpr {x : sLat} {k m : Nat} (ok : x.ok) (h : k ≤ 3) (h2 : m ≤ 9) : (x.wpr k m).ok := ⟨ok.1, ok.2.1, ok.2.2.1, ok.2.2.2.1, ok.2.2.2.2.1, ok.2.2.2.2.2.1, ok.2.2.2.2.2.2.1, h, h2, ok.2.2.2.2.2.2.2.2.2⟩
theorem ok_wsz {x : sLat} {k m : Nat} (ok : x.ok) (h : 2 ≤ k ∧ k ≤ 6) (h2 : 2 ≤ m ∧ m ≤ 6) : (x.wsz k m).ok := ⟨fun _ => Nat.zero_lt_succ 7, fun _ => Nat.zero_lt_succ 1, h, h2, ok.2.2.2.2.1, ok.2.2.2.2.2.1, ok.2.2.2.2.2.2.1, ok.2.2.2.2.2.2.2.1, ok.2.2.2.2.2.2.2.2.1, fun _ _ => rfl, fun _ _ => rfl⟩
section LAT6
variable {AH : xH} {b : Nat} {x : sLat} {lk pr : Nat → Int32}
theorem LatAt.p4 (h : LatAt AH b x lk pr) {v : Nat} {K : xH → Prop} : xpf AH b 1 4 (.int (nI v)) K = K (latP AH b (x.whi v) lk pr) := by
  rw [xpf_of (fs := _) h.1 (by simp)]
  congr 1
  exact lat_ext h (Or.inl ⟨rfl, rfl⟩) (Or.inr ⟨by omega, rfl⟩) (Or.inr ⟨by omega, rfl⟩) (Or.inr ⟨by omega, rfl⟩) (Or.inr ⟨by omega, rfl⟩) (by omega)
theorem LatAt.p5 (h : LatAt AH b x lk pr) {v : Nat} {K : xH → Prop} : xpf AH b 1 5 (.int (nI v)) K = K (latP AH b (x.wwi v) lk pr) := by
  rw [xpf_of (fs := _) h.1 (by simp)]
  congr 1
  exact lat_ext h (Or.inl ⟨rfl, rfl⟩) (Or.inr ⟨by omega, rfl⟩) (Or.inr ⟨by omega, rfl⟩) (Or.inr ⟨by omega, rfl⟩) (Or.inr ⟨by omega, rfl⟩) (by omega)
theorem LatAt.p8 (h : LatAt AH b x lk pr) {v : Nat} {K : xH → Prop} : xpf AH b 1 8 (.int (nI v)) K = K (latP AH b (x.wne v) lk pr) := by
  rw [xpf_of (fs := _) h.1 (by simp)]
  congr 1
  exact lat_ext h (Or.inl ⟨rfl, rfl⟩) (Or.inr ⟨by omega, rfl⟩) (Or.inr ⟨by omega, rfl⟩) (Or.inr ⟨by omega, rfl⟩) (Or.inr ⟨by omega, rfl⟩) (by omega)
theorem LatAt.p9 (h : LatAt AH b x lk pr) {v : Nat} {K : xH → Prop} : xpf AH b 1 9 (.int (nI v)) K = K (latP AH b (x.wed v) lk pr) := by
  rw [xpf_of (fs := _) h.1 (by simp)]
  congr 1
  exact lat_ext h (Or.inl ⟨rfl, rfl⟩) (Or.inr ⟨by omega, rfl⟩) (Or.inr ⟨by omega, rfl⟩) (Or.inr ⟨by omega, rfl⟩) (Or.inr ⟨by omega, rfl⟩) (by omega)
theorem LatAt.p10 (h : LatAt AH b x lk pr) {v : Nat} {K : xH → Prop} : xpf AH b 1 10 (.int (nI v)) K = K (latP AH b (x.wki v) lk pr) := by
  rw [xpf_of (fs := _) h.1 (by simp)]
  congr 1
  exact lat_ext h (Or.inl ⟨rfl, rfl⟩) (Or.inr ⟨by omega, rfl⟩) (Or.inr ⟨by omega, rfl⟩) (Or.inr ⟨by omega, rfl⟩) (Or.inr ⟨by omega, rfl⟩) (by omega)
theorem LatAt.p11 (h : LatAt AH b x lk pr) {v : Nat} {K : xH → Prop} : xpf AH b 1 11 (.int (nI v)) K = K (latP AH b (x.wnu v) lk pr) := by
  rw [xpf_of (fs := _) h.1 (by simp)]
  congr 1
  exact lat_ext h (Or.inl ⟨rfl, rfl⟩) (Or.inr ⟨by omega, rfl⟩) (Or.inr ⟨by omega, rfl⟩) (Or.inr ⟨by omega, rfl⟩) (Or.inr ⟨by omega, rfl⟩) (by omega)
theorem LatAt.am (h : LatAt AH b x lk pr) {f : Nat → Nat} {g : Nat → Int32} (hg : ∀ i, g i = nI (f i)) : AH.set (b + 1) (cI 36 g) = latP AH b (x.amk f) lk pr := by
  rw [show g = fun i => nI (f i) from funext hg]
  exact lat_ext h (Or.inr ⟨by omega, rfl⟩) (Or.inl ⟨rfl, rfl⟩) (Or.inr ⟨by omega, rfl⟩) (Or.inr ⟨by omega, rfl⟩) (Or.inr ⟨by omega, rfl⟩) (by omega)
theorem LatAt.ap (h : LatAt AH b x lk pr) {f : Nat → Nat} {g : Nat → Int32} (hg : ∀ i, g i = nI (f i)) : AH.set (b + 2) (cI 36 g) = latP AH b (x.apn f) lk pr := by
  rw [show g = fun i => nI (f i) from funext hg]
  exact lat_ext h (Or.inr ⟨by omega, rfl⟩) (Or.inr ⟨by omega, rfl⟩) (Or.inl ⟨rfl, rfl⟩) (Or.inr ⟨by omega, rfl⟩) (Or.inr ⟨by omega, rfl⟩) (by omega)
theorem LatAt.al (h : LatAt AH b x lk pr) {g : Nat → Int32} : AH.set (b + 3) (cI 288 g) = latP AH b x g pr :=
  lat_ext h (Or.inr ⟨by omega, rfl⟩) (Or.inr ⟨by omega, rfl⟩) (Or.inr ⟨by omega, rfl⟩) (Or.inl ⟨rfl, rfl⟩) (Or.inr ⟨by omega, rfl⟩) (by omega)
theorem LatAt.ar (h : LatAt AH b x lk pr) {g : Nat → Int32} : AH.set (b + 4) (cI 64 g) = latP AH b x lk g :=
  lat_ext h (Or.inr ⟨by omega, rfl⟩) (Or.inr ⟨by omega, rfl⟩) (Or.inr ⟨by omega, rfl⟩) (Or.inr ⟨by omega, rfl⟩) (Or.inl ⟨rfl, rfl⟩) (by omega)
theorem LatAt.fr (h : LatAt AH b x lk pr) {b2 : Nat} {y : sLat} {lk2 pr2 : Nat → Int32} (h2 : LatAt AH b2 y lk2 pr2) (sep : b2 + 4 < b ∨ b + 4 < b2) (x' : sLat) (lk' pr' : Nat → Int32) : LatAt (latP AH b x' lk' pr') b2 y lk2 pr2 :=
  ⟨by rw [h.out (by omega)]; exact h2.1, by rw [h.out (by omega)]; exact h2.2.1, by rw [h.out (by omega)]; exact h2.2.2.1, by rw [h.out (by omega)]; exact h2.2.2.2.1, by rw [h.out (by omega)]; exact h2.2.2.2.2⟩
theorem xcpy_of {AH : xH} {a0 a1 n0 n1 sp dp m : Nat} {f g : Nat → Int32} {K : xH → Prop} (h0 : AH[a0]? = some (cI n0 f)) (h1 : AH[a1]? = some (cI n1 g)) (e0 : sp + m ≤ n0) (e1 : dp + m ≤ n1) (l0 : n0 < 2 ^ 31) (l1 : n1 < 2 ^ 31) : xcpy AH a0 (nI sp) a1 (nI dp) (nI m) K = K (AH.set a1 (cI n1 (va_cpy f g sp dp m))) := by
  unfold xcpy
  rw [h0, h1]
  simp only [nI_clamp (show sp < 2 ^ 31 by omega), nI_clamp (show dp < 2 ^ 31 by omega), nI_clamp (show m < 2 ^ 31 by omega), lt0_nI (show sp < 2 ^ 31 by omega), lt0_nI (show dp < 2 ^ 31 by omega), lt0_nI (show m < 2 ^ 31 by omega), e0, e1, not_false_eq_true, true_and]
/-- Lattice.putMark(c, v) -/
theorem c_putMark (h : LatAt AH b x lk pr) (ok : x.ok) {c v : Int32} {Q : Option Value → xH → Prop} (k : Q (some (.int (x.sMark c v).1)) (latP AH b (x.sMark c v).2 lk pr)) : XC MX1_putMark [.ref b, .int c, .int v] AH Q := by
  have hn := sLat.n36 ok
  unfold sLat.sMark at k
  refine XC.ofR (L := [some (.ref b), some (.int c), some (.int v), none]) KX1_putMark (by decide +kernel) (by first | decide | exact Nat.le_of_ble_eq_true rfl) rfl ?_
  simp only [eX1_putMark_0, eX1_putMark_1, eX1_putMark_2, eX1_putMark_5, eX1_putMark_8, eX1_putMark_9, eX1_putMark_10, eX1_putMark_11, eX1_putMark_14, eX1_putMark_17, eX1_putMark_19, eX1_putMark_20, eX1_putMark_21, eX1_putMark_24, eX1_putMark_25, eX1_putMark_26, eX1_putMark_29, eX1_putMark_31, eX1_putMark_32, eX1_putMark_33, eX1_putMark_36, eX1_putMark_37, eX1_putMark_38, eX1_putMark_39, eX1_putMark_40, eX1_putMark_43, eX1_putMark_44, eX1_putMark_45, eX1_putMark_46, eX1_putMark_47, Nat.add_zero, Nat.reduceAdd, Nat.reduceLeDiff, Nat.zero_le, and_true, o_aload_0r, o_callS_1, o_callV_1, o_const_e, o_getf_e, o_iald_e, o_iald_f, o_iast_e, o_if_e, o_iload_1, o_iload_2, o_iload_3, o_iret_e, o_ist_3, tl_n, tl_s, true_and, xnlv_i, xnlv_n, xnlv_r, xwt_0, xwt_f, xwt_i, xwt_l, xwt_r, h.cls, h.g0, h.g1, h.g2, h.g3, h.g4, h.g5, h.g6, h.g7, h.g8, h.g9, h.g10, h.g11]
  refine c_hasCell h ok ?_
  cases hj : ix x.n c with
  | none =>
    simp only [hj] at k
    rw [latP_self h] at k
    simp only [eX1_putMark_0, eX1_putMark_1, eX1_putMark_2, eX1_putMark_5, eX1_putMark_8, eX1_putMark_9, eX1_putMark_10, eX1_putMark_11, eX1_putMark_14, eX1_putMark_17, eX1_putMark_19, eX1_putMark_20, eX1_putMark_21, eX1_putMark_24, eX1_putMark_25, eX1_putMark_26, eX1_putMark_29, eX1_putMark_31, eX1_putMark_32, eX1_putMark_33, eX1_putMark_36, eX1_putMark_37, eX1_putMark_38, eX1_putMark_39, eX1_putMark_40, eX1_putMark_43, eX1_putMark_44, eX1_putMark_45, eX1_putMark_46, eX1_putMark_47, Nat.add_zero, Nat.reduceAdd, Nat.reduceLeDiff, Nat.zero_le, and_true, o_aload_0r, o_callS_1, o_callV_1, o_const_e, o_getf_e, o_iald_e, o_iald_f, o_iast_e, o_if_e, o_iload_1, o_iload_2, o_iload_3, o_iret_e, o_ist_3, tl_n, tl_s, true_and, xnlv_i, xnlv_n, xnlv_r, xwt_0, xwt_f, xwt_i, xwt_l, xwt_r, Option.isSome, not_true_eq_false, not_false_eq_true, true_implies, false_implies, and_true, true_and, implies_true, forall_const, ↓reduceIte, Bool.false_eq_true, i10, i10n]
    exact k
  | some j =>
    simp only [hj] at k
    obtain ⟨hj1, rfl⟩ := ix_s (by omega) hj
    simp only [eX1_putMark_0, eX1_putMark_1, eX1_putMark_2, eX1_putMark_5, eX1_putMark_8, eX1_putMark_9, eX1_putMark_10, eX1_putMark_11, eX1_putMark_14, eX1_putMark_17, eX1_putMark_19, eX1_putMark_20, eX1_putMark_21, eX1_putMark_24, eX1_putMark_25, eX1_putMark_26, eX1_putMark_29, eX1_putMark_31, eX1_putMark_32, eX1_putMark_33, eX1_putMark_36, eX1_putMark_37, eX1_putMark_38, eX1_putMark_39, eX1_putMark_40, eX1_putMark_43, eX1_putMark_44, eX1_putMark_45, eX1_putMark_46, eX1_putMark_47, Nat.add_zero, Nat.reduceAdd, Nat.reduceLeDiff, Nat.zero_le, and_true, o_aload_0r, o_callS_1, o_callV_1, o_const_e, o_getf_e, o_iald_e, o_iald_f, o_iast_e, o_if_e, o_iload_1, o_iload_2, o_iload_3, o_iret_e, o_ist_3, tl_n, tl_s, true_and, xnlv_i, xnlv_n, xnlv_r, xwt_0, xwt_f, xwt_i, xwt_l, xwt_r, Option.isSome, not_true_eq_false, not_false_eq_true, true_implies, false_implies, and_true, true_and, implies_true, forall_const, ↓reduceIte, Bool.false_eq_true, i10, i10n]
    refine c_isMark ?_
    cases hm : ix 8 v with
    | none =>
      simp only [hm] at k
      rw [latP_self h] at k
      simp only [eX1_putMark_0, eX1_putMark_1, eX1_putMark_2, eX1_putMark_5, eX1_putMark_8, eX1_putMark_9, eX1_putMark_10, eX1_putMark_11, eX1_putMark_14, eX1_putMark_17, eX1_putMark_19, eX1_putMark_20, eX1_putMark_21, eX1_putMark_24, eX1_putMark_25, eX1_putMark_26, eX1_putMark_29, eX1_putMark_31, eX1_putMark_32, eX1_putMark_33, eX1_putMark_36, eX1_putMark_37, eX1_putMark_38, eX1_putMark_39, eX1_putMark_40, eX1_putMark_43, eX1_putMark_44, eX1_putMark_45, eX1_putMark_46, eX1_putMark_47, Nat.add_zero, Nat.reduceAdd, Nat.reduceLeDiff, Nat.zero_le, and_true, o_aload_0r, o_callS_1, o_callV_1, o_const_e, o_getf_e, o_iald_e, o_iald_f, o_iast_e, o_if_e, o_iload_1, o_iload_2, o_iload_3, o_iret_e, o_ist_3, tl_n, tl_s, true_and, xnlv_i, xnlv_n, xnlv_r, xwt_0, xwt_f, xwt_i, xwt_l, xwt_r, Option.isSome, not_true_eq_false, not_false_eq_true, true_implies, false_implies, and_true, true_and, implies_true, forall_const, ↓reduceIte, Bool.false_eq_true, i10, i10n]
      exact k
    | some m =>
      simp only [hm] at k
      obtain ⟨hm1, rfl⟩ := ix_s (by omega) hm
      have hpj := ok.2.1 j
      simp only [eX1_putMark_0, eX1_putMark_1, eX1_putMark_2, eX1_putMark_5, eX1_putMark_8, eX1_putMark_9, eX1_putMark_10, eX1_putMark_11, eX1_putMark_14, eX1_putMark_17, eX1_putMark_19, eX1_putMark_20, eX1_putMark_21, eX1_putMark_24, eX1_putMark_25, eX1_putMark_26, eX1_putMark_29, eX1_putMark_31, eX1_putMark_32, eX1_putMark_33, eX1_putMark_36, eX1_putMark_37, eX1_putMark_38, eX1_putMark_39, eX1_putMark_40, eX1_putMark_43, eX1_putMark_44, eX1_putMark_45, eX1_putMark_46, eX1_putMark_47, Nat.add_zero, Nat.reduceAdd, Nat.reduceLeDiff, Nat.zero_le, and_true, o_aload_0r, o_callS_1, o_callV_1, o_const_e, o_getf_e, o_iald_e, o_iald_f, o_iast_e, o_if_e, o_iload_1, o_iload_2, o_iload_3, o_iret_e, o_ist_3, tl_n, tl_s, true_and, xnlv_i, xnlv_n, xnlv_r, xwt_0, xwt_f, xwt_i, xwt_l, xwt_r, Option.isSome, h.cls, h.g0, h.g1, h.g2, h.g3, h.g4, h.g5, h.g6, h.g7, h.g8, h.g9, h.g10, h.g11, h.rp (c := j) (by omega), h.rm (c := j) (by omega), eq0_nI (a := x.pn j) (by omega), h.wm (c := j) (v := m) (by omega), not_true_eq_false, not_false_eq_true, true_implies, false_implies, and_true, true_and, implies_true, forall_const, ↓reduceIte, Bool.false_eq_true, i10, i10n]
      refine ⟨fun g => ?_, fun g => ?_⟩
      · rw [if_neg (by simp [g])] at k
        exact k
      · rw [if_pos g, latP_self h] at k
        exact k
/-- Lattice.putPin(c, v) -/
theorem c_putPin (h : LatAt AH b x lk pr) (ok : x.ok) {c v : Int32} {Q : Option Value → xH → Prop} (k : Q (some (.int (x.sPin c v).1)) (latP AH b (x.sPin c v).2 lk pr)) : XC MX1_putPin [.ref b, .int c, .int v] AH Q := by
  have hn := sLat.n36 ok
  unfold sLat.sPin at k
  refine XC.ofR (L := [some (.ref b), some (.int c), some (.int v), none]) KX1_putPin (by decide +kernel) (by first | decide | exact Nat.le_of_ble_eq_true rfl) rfl ?_
  simp only [eX1_putPin_0, eX1_putPin_1, eX1_putPin_2, eX1_putPin_5, eX1_putPin_8, eX1_putPin_9, eX1_putPin_10, eX1_putPin_11, eX1_putPin_14, eX1_putPin_15, eX1_putPin_16, eX1_putPin_19, eX1_putPin_21, eX1_putPin_22, eX1_putPin_23, eX1_putPin_26, eX1_putPin_27, eX1_putPin_28, eX1_putPin_29, eX1_putPin_30, eX1_putPin_33, eX1_putPin_34, eX1_putPin_35, eX1_putPin_36, eX1_putPin_37, Nat.add_zero, Nat.reduceAdd, Nat.reduceLeDiff, Nat.zero_le, and_true, o_aload_0r, o_callV_1, o_const_e, o_getf_e, o_iald_e, o_iald_f, o_iast_e, o_icmp_e, o_if_e, o_iload_1, o_iload_2, o_iload_3, o_iret_e, o_ist_3, tl_n, tl_s, true_and, xnlv_i, xnlv_n, xnlv_r, xwt_0, xwt_f, xwt_i, xwt_l, xwt_r, h.cls, h.g0, h.g1, h.g2, h.g3, h.g4, h.g5, h.g6, h.g7, h.g8, h.g9, h.g10, h.g11]
  refine c_hasCell h ok ?_
  cases hj : ix x.n c with
  | none =>
    simp only [hj] at k
    rw [latP_self h] at k
    simp only [eX1_putPin_0, eX1_putPin_1, eX1_putPin_2, eX1_putPin_5, eX1_putPin_8, eX1_putPin_9, eX1_putPin_10, eX1_putPin_11, eX1_putPin_14, eX1_putPin_15, eX1_putPin_16, eX1_putPin_19, eX1_putPin_21, eX1_putPin_22, eX1_putPin_23, eX1_putPin_26, eX1_putPin_27, eX1_putPin_28, eX1_putPin_29, eX1_putPin_30, eX1_putPin_33, eX1_putPin_34, eX1_putPin_35, eX1_putPin_36, eX1_putPin_37, Nat.add_zero, Nat.reduceAdd, Nat.reduceLeDiff, Nat.zero_le, and_true, o_aload_0r, o_callV_1, o_const_e, o_getf_e, o_iald_e, o_iald_f, o_iast_e, o_icmp_e, o_if_e, o_iload_1, o_iload_2, o_iload_3, o_iret_e, o_ist_3, tl_n, tl_s, true_and, xnlv_i, xnlv_n, xnlv_r, xwt_0, xwt_f, xwt_i, xwt_l, xwt_r, Option.isSome, not_true_eq_false, not_false_eq_true, true_implies, false_implies, and_true, true_and, implies_true, forall_const, ↓reduceIte, Bool.false_eq_true, i10, i10n]
    exact k
  | some j =>
    simp only [hj] at k
    obtain ⟨hj1, rfl⟩ := ix_s (by omega) hj
    simp only [eX1_putPin_0, eX1_putPin_1, eX1_putPin_2, eX1_putPin_5, eX1_putPin_8, eX1_putPin_9, eX1_putPin_10, eX1_putPin_11, eX1_putPin_14, eX1_putPin_15, eX1_putPin_16, eX1_putPin_19, eX1_putPin_21, eX1_putPin_22, eX1_putPin_23, eX1_putPin_26, eX1_putPin_27, eX1_putPin_28, eX1_putPin_29, eX1_putPin_30, eX1_putPin_33, eX1_putPin_34, eX1_putPin_35, eX1_putPin_36, eX1_putPin_37, Nat.add_zero, Nat.reduceAdd, Nat.reduceLeDiff, Nat.zero_le, and_true, o_aload_0r, o_callV_1, o_const_e, o_getf_e, o_iald_e, o_iald_f, o_iast_e, o_icmp_e, o_if_e, o_iload_1, o_iload_2, o_iload_3, o_iret_e, o_ist_3, tl_n, tl_s, true_and, xnlv_i, xnlv_n, xnlv_r, xwt_0, xwt_f, xwt_i, xwt_l, xwt_r, Option.isSome, not_true_eq_false, not_false_eq_true, true_implies, false_implies, and_true, true_and, implies_true, forall_const, ↓reduceIte, Bool.false_eq_true, i10, i10n, n1]
    rcases ix_cases (n := 2) (by omega) v with ⟨m, hm, rfl, e⟩ | ⟨h0, e⟩ | ⟨h0, h1, e⟩ <;> simp only [e] at k
    · rw [lt0_nI (by omega), le_nI (by omega) (by decide)]
      simp only [eX1_putPin_0, eX1_putPin_1, eX1_putPin_2, eX1_putPin_5, eX1_putPin_8, eX1_putPin_9, eX1_putPin_10, eX1_putPin_11, eX1_putPin_14, eX1_putPin_15, eX1_putPin_16, eX1_putPin_19, eX1_putPin_21, eX1_putPin_22, eX1_putPin_23, eX1_putPin_26, eX1_putPin_27, eX1_putPin_28, eX1_putPin_29, eX1_putPin_30, eX1_putPin_33, eX1_putPin_34, eX1_putPin_35, eX1_putPin_36, eX1_putPin_37, Nat.add_zero, Nat.reduceAdd, Nat.reduceLeDiff, Nat.zero_le, and_true, o_aload_0r, o_callV_1, o_const_e, o_getf_e, o_iald_e, o_iald_f, o_iast_e, o_icmp_e, o_if_e, o_iload_1, o_iload_2, o_iload_3, o_iret_e, o_ist_3, tl_n, tl_s, true_and, xnlv_i, xnlv_n, xnlv_r, xwt_0, xwt_f, xwt_i, xwt_l, xwt_r, not_true_eq_false, not_false_eq_true, true_implies, false_implies, and_true, true_and, implies_true, forall_const, ↓reduceIte, Bool.false_eq_true, i10, i10n, h.cls, h.g0, h.g1, h.g2, h.g3, h.g4, h.g5, h.g6, h.g7, h.g8, h.g9, h.g10, h.g11, h.rp (c := j) (by omega), h.wp (c := j) (v := m) (by omega)]
      exact ⟨fun _ => k, fun g => by omega⟩
    · rw [latP_self h] at k
      exact ⟨fun _ => k, fun g => absurd h0 g⟩
    · rw [latP_self h] at k
      refine ⟨fun g => absurd g h0, fun _ => ⟨fun g => ?_, fun _ => k⟩⟩
      have : (nI 1).toInt = 1 := rfl
      have : (nI 2).toInt = 2 := rfl
      rw [Int32.le_iff_toInt_le] at g h1
      omega
/-- Lattice.turnPin(c) -/
theorem c_turnPin (h : LatAt AH b x lk pr) (ok : x.ok) {c : Int32} {Q : Option Value → xH → Prop} (k : Q (some (.int (x.sTurn c).1)) (latP AH b (x.sTurn c).2 lk pr)) : XC MX1_turnPin [.ref b, .int c] AH Q := by
  have hn := sLat.n36 ok
  unfold sLat.sTurn at k
  refine XC.ofR (L := [some (.ref b), some (.int c)]) KX1_turnPin (by decide +kernel) (by first | decide | exact Nat.le_of_ble_eq_true rfl) rfl ?_
  simp only [eX1_turnPin_0, eX1_turnPin_1, eX1_turnPin_2, eX1_turnPin_5, eX1_turnPin_8, eX1_turnPin_9, eX1_turnPin_10, eX1_turnPin_11, eX1_turnPin_12, eX1_turnPin_15, eX1_turnPin_16, eX1_turnPin_17, eX1_turnPin_18, eX1_turnPin_21, eX1_turnPin_24, eX1_turnPin_25, Nat.add_zero, Nat.reduceAdd, Nat.reduceLeDiff, Nat.zero_le, and_true, o_aload_0r, o_callV_1, o_callV_2, o_const_e, o_getf_e, o_goto_e, o_iald_e, o_iald_f, o_if_e, o_ii_e, o_iload_1, o_iret_e, tl_n, tl_s, true_and, xwt_0, xwt_f, xwt_i, xwt_l, xwt_r, h.cls, h.g0, h.g1, h.g2, h.g3, h.g4, h.g5, h.g6, h.g7, h.g8, h.g9, h.g10, h.g11]
  refine c_hasCell h ok ?_
  cases hj : ix x.n c with
  | none =>
    simp only [hj] at k
    rw [latP_self h] at k
    simp only [eX1_turnPin_0, eX1_turnPin_1, eX1_turnPin_2, eX1_turnPin_5, eX1_turnPin_8, eX1_turnPin_9, eX1_turnPin_10, eX1_turnPin_11, eX1_turnPin_12, eX1_turnPin_15, eX1_turnPin_16, eX1_turnPin_17, eX1_turnPin_18, eX1_turnPin_21, eX1_turnPin_24, eX1_turnPin_25, Nat.add_zero, Nat.reduceAdd, Nat.reduceLeDiff, Nat.zero_le, and_true, o_aload_0r, o_callV_1, o_callV_2, o_const_e, o_getf_e, o_goto_e, o_iald_e, o_iald_f, o_if_e, o_ii_e, o_iload_1, o_iret_e, tl_n, tl_s, true_and, xwt_0, xwt_f, xwt_i, xwt_l, xwt_r, Option.isSome, not_true_eq_false, not_false_eq_true, true_implies, false_implies, and_true, true_and, implies_true, forall_const, ↓reduceIte, Bool.false_eq_true, i10, i10n]
    exact k
  | some j =>
    simp only [hj] at k
    obtain ⟨hj1, rfl⟩ := ix_s (by omega) hj
    have hp := ok.2.1 j
    simp only [eX1_turnPin_0, eX1_turnPin_1, eX1_turnPin_2, eX1_turnPin_5, eX1_turnPin_8, eX1_turnPin_9, eX1_turnPin_10, eX1_turnPin_11, eX1_turnPin_12, eX1_turnPin_15, eX1_turnPin_16, eX1_turnPin_17, eX1_turnPin_18, eX1_turnPin_21, eX1_turnPin_24, eX1_turnPin_25, Nat.add_zero, Nat.reduceAdd, Nat.reduceLeDiff, Nat.zero_le, and_true, o_aload_0r, o_callV_1, o_callV_2, o_const_e, o_getf_e, o_goto_e, o_iald_e, o_iald_f, o_if_e, o_ii_e, o_iload_1, o_iret_e, tl_n, tl_s, true_and, xwt_0, xwt_f, xwt_i, xwt_l, xwt_r, Option.isSome, not_true_eq_false, not_false_eq_true, true_implies, false_implies, and_true, true_and, implies_true, forall_const, ↓reduceIte, Bool.false_eq_true, i10, i10n, h.cls, h.g0, h.g1, h.g2, h.g3, h.g4, h.g5, h.g6, h.g7, h.g8, h.g9, h.g10, h.g11, h.rp (c := j) (by omega), n1, pk_sub (a := 1) (b := x.pn j) (by omega)]
    refine c_putPin h ok ?_
    have e2 : ix 2 (nI (1 - x.pn j)) = some (1 - x.pn j) := by
      rcases ix_cases (n := 2) (by omega) (nI (1 - x.pn j)) with ⟨m, hm, e1, e⟩ | ⟨h0, e⟩ | ⟨h0, h1, e⟩
      · rw [e, ← (nI_eq (by omega) (by omega)).mp e1]
      · exact absurd h0 (nI_pos (by omega))
      · rw [le_nI (by decide) (by omega)] at h1; omega
    unfold sLat.sPin
    simp only [hj, e2]
    simp only [eX1_turnPin_0, eX1_turnPin_1, eX1_turnPin_2, eX1_turnPin_5, eX1_turnPin_8, eX1_turnPin_9, eX1_turnPin_10, eX1_turnPin_11, eX1_turnPin_12, eX1_turnPin_15, eX1_turnPin_16, eX1_turnPin_17, eX1_turnPin_18, eX1_turnPin_21, eX1_turnPin_24, eX1_turnPin_25, Nat.add_zero, Nat.reduceAdd, Nat.reduceLeDiff, Nat.zero_le, and_true, o_aload_0r, o_callV_1, o_callV_2, o_const_e, o_getf_e, o_goto_e, o_iald_e, o_iald_f, o_if_e, o_ii_e, o_iload_1, o_iret_e, tl_n, tl_s, true_and, xwt_0, xwt_f, xwt_i, xwt_l, xwt_r]
    exact k
/-- Lattice.assign(w, v) -/
theorem c_assign (h : LatAt AH b x lk pr) (ok : x.ok) (hk : LkOK x lk) (hp : PrOK x pr) {w v : Int32} {Q : Option Value → xH → Prop} (k : ∀ lk' pr' : Nat → Int32, LkOK (x.sSet w v).2 lk' → PrOK (x.sSet w v).2 pr' → Q (some (.int (x.sSet w v).1)) (latP AH b (x.sSet w v).2 lk' pr')) : XC MX1_assign [.ref b, .int w, .int v] AH Q := by
  unfold sLat.sSet at k
  have t1 : (nI 1).toInt = 1 := rfl
  have t2 : (nI 2).toInt = 2 := rfl
  have t3 : (nI 3).toInt = 3 := rfl
  have t99 : (nI 99).toInt = 99 := rfl
  have t100 : (nI 100).toInt = 100 := rfl
  refine XC.ofR (L := [some (.ref b), some (.int w), some (.int v), none]) KX1_assign (by decide +kernel) (by first | decide | exact Nat.le_of_ble_eq_true rfl) rfl ?_
  rcases ix_cases (n := 3) (by omega) w with ⟨j, hj, rfl, e⟩ | ⟨h0, e⟩ | ⟨h0, h1, e⟩ <;> simp only [e] at k
  · rcases (show j = 0 ∨ j = 1 ∨ j = 2 by omega) with rfl | rfl | rfl <;> simp only at k
    · simp only [eX1_assign_0, eX1_assign_1, eX1_assign_4, eX1_assign_5, eX1_assign_6, eX1_assign_9, eX1_assign_10, eX1_assign_11, eX1_assign_12, eX1_assign_15, eX1_assign_16, eX1_assign_17, eX1_assign_20, eX1_assign_22, eX1_assign_25, eX1_assign_26, eX1_assign_29, eX1_assign_31, eX1_assign_32, eX1_assign_33, eX1_assign_36, eX1_assign_37, eX1_assign_40, eX1_assign_41, eX1_assign_42, eX1_assign_43, eX1_assign_46, eX1_assign_47, eX1_assign_48, eX1_assign_49, eX1_assign_50, eX1_assign_53, eX1_assign_54, eX1_assign_57, eX1_assign_60, eX1_assign_61, eX1_assign_64, eX1_assign_65, eX1_assign_66, eX1_assign_67, eX1_assign_70, eX1_assign_71, eX1_assign_72, eX1_assign_75, eX1_assign_78, eX1_assign_79, eX1_assign_80, eX1_assign_83, eX1_assign_84, eX1_assign_87, eX1_assign_88, Nat.add_zero, Nat.reduceAdd, Nat.reduceLeDiff, Nat.zero_le, and_true, o_aload_0r, o_callV_0, o_const_e, o_getf_e, o_goto_e, o_icmp_e, o_if_e, o_iload_1, o_iload_2, o_iload_3, o_iret_e, o_ist_3, o_putf_e, tl_n, tl_s, true_and, xfit_a, xfit_i, xfit_l, xfit_o, xnlv_i, xnlv_n, xnlv_r, xwt_0, xwt_f, xwt_i, xwt_l, xwt_r, n2, lt0_nI (a := 0) (by omega), le_nI (a := 0) (b := 2) (by omega) (by omega), eq0_nI (a := 0) (by omega), n99, n1, eq_nI (a := 0) (b := 1) (by omega) (by omega), not_true_eq_false, not_false_eq_true, true_implies, false_implies, and_true, true_and, implies_true, forall_const, ↓reduceIte, Bool.false_eq_true, i10, i10n, eq_self, Nat.zero_le]
      rcases ix_cases (n := 100) (by omega) v with ⟨m, hm, rfl, e⟩ | ⟨h0, e⟩ | ⟨h0, h1, e⟩ <;> simp only [e] at k
      · rw [lt0_nI (by omega), le_nI (by omega) (by decide)]
        simp only [eX1_assign_0, eX1_assign_1, eX1_assign_4, eX1_assign_5, eX1_assign_6, eX1_assign_9, eX1_assign_10, eX1_assign_11, eX1_assign_12, eX1_assign_15, eX1_assign_16, eX1_assign_17, eX1_assign_20, eX1_assign_22, eX1_assign_25, eX1_assign_26, eX1_assign_29, eX1_assign_31, eX1_assign_32, eX1_assign_33, eX1_assign_36, eX1_assign_37, eX1_assign_40, eX1_assign_41, eX1_assign_42, eX1_assign_43, eX1_assign_46, eX1_assign_47, eX1_assign_48, eX1_assign_49, eX1_assign_50, eX1_assign_53, eX1_assign_54, eX1_assign_57, eX1_assign_60, eX1_assign_61, eX1_assign_64, eX1_assign_65, eX1_assign_66, eX1_assign_67, eX1_assign_70, eX1_assign_71, eX1_assign_72, eX1_assign_75, eX1_assign_78, eX1_assign_79, eX1_assign_80, eX1_assign_83, eX1_assign_84, eX1_assign_87, eX1_assign_88, Nat.add_zero, Nat.reduceAdd, Nat.reduceLeDiff, Nat.zero_le, and_true, o_aload_0r, o_callV_0, o_const_e, o_getf_e, o_goto_e, o_icmp_e, o_if_e, o_iload_1, o_iload_2, o_iload_3, o_iret_e, o_ist_3, o_putf_e, tl_n, tl_s, true_and, xfit_a, xfit_i, xfit_l, xfit_o, xnlv_i, xnlv_n, xnlv_r, xwt_0, xwt_f, xwt_i, xwt_l, xwt_r, not_true_eq_false, not_false_eq_true, true_implies, false_implies, and_true, true_and, implies_true, forall_const, ↓reduceIte, Bool.false_eq_true, i10, i10n, h.cls, h.g0, h.g1, h.g2, h.g3, h.g4, h.g5, h.g6, h.g7, h.g8, h.g9, h.g10, h.g11, h.p6 (v := m)]
        exact ⟨fun _ => k lk pr hk hp, fun g => by omega⟩
      · have := k lk pr hk hp
        rw [latP_self h] at this
        exact ⟨fun _ => this, fun g => absurd h0 g⟩
      · have := k lk pr hk hp
        rw [latP_self h] at this
        refine ⟨fun g => absurd g h0, fun _ => ⟨fun g => ?_, fun _ => this⟩⟩
        rw [Int32.le_iff_toInt_le] at g h1
        omega
    · simp only [eX1_assign_0, eX1_assign_1, eX1_assign_4, eX1_assign_5, eX1_assign_6, eX1_assign_9, eX1_assign_10, eX1_assign_11, eX1_assign_12, eX1_assign_15, eX1_assign_16, eX1_assign_17, eX1_assign_20, eX1_assign_22, eX1_assign_25, eX1_assign_26, eX1_assign_29, eX1_assign_31, eX1_assign_32, eX1_assign_33, eX1_assign_36, eX1_assign_37, eX1_assign_40, eX1_assign_41, eX1_assign_42, eX1_assign_43, eX1_assign_46, eX1_assign_47, eX1_assign_48, eX1_assign_49, eX1_assign_50, eX1_assign_53, eX1_assign_54, eX1_assign_57, eX1_assign_60, eX1_assign_61, eX1_assign_64, eX1_assign_65, eX1_assign_66, eX1_assign_67, eX1_assign_70, eX1_assign_71, eX1_assign_72, eX1_assign_75, eX1_assign_78, eX1_assign_79, eX1_assign_80, eX1_assign_83, eX1_assign_84, eX1_assign_87, eX1_assign_88, Nat.add_zero, Nat.reduceAdd, Nat.reduceLeDiff, Nat.zero_le, and_true, o_aload_0r, o_callV_0, o_const_e, o_getf_e, o_goto_e, o_icmp_e, o_if_e, o_iload_1, o_iload_2, o_iload_3, o_iret_e, o_ist_3, o_putf_e, tl_n, tl_s, true_and, xfit_a, xfit_i, xfit_l, xfit_o, xnlv_i, xnlv_n, xnlv_r, xwt_0, xwt_f, xwt_i, xwt_l, xwt_r, n2, lt0_nI (a := 1) (by omega), le_nI (a := 1) (b := 2) (by omega) (by omega), eq0_nI (a := 1) (by omega), n1, eq_nI (a := 1) (b := 1) (by omega) (by omega), not_true_eq_false, not_false_eq_true, true_implies, false_implies, and_true, true_and, implies_true, forall_const, ↓reduceIte, Bool.false_eq_true, i10, i10n, eq_self, Nat.one_ne_zero, Nat.reduceLeDiff]
      rcases ix_cases (n := 3) (by omega) v with ⟨m, hm, rfl, e⟩ | ⟨h0, e⟩ | ⟨h0, h1, e⟩ <;> simp only [e] at k
      · rw [lt0_nI (by omega), le_nI (by omega) (by decide)]
        simp only [eX1_assign_0, eX1_assign_1, eX1_assign_4, eX1_assign_5, eX1_assign_6, eX1_assign_9, eX1_assign_10, eX1_assign_11, eX1_assign_12, eX1_assign_15, eX1_assign_16, eX1_assign_17, eX1_assign_20, eX1_assign_22, eX1_assign_25, eX1_assign_26, eX1_assign_29, eX1_assign_31, eX1_assign_32, eX1_assign_33, eX1_assign_36, eX1_assign_37, eX1_assign_40, eX1_assign_41, eX1_assign_42, eX1_assign_43, eX1_assign_46, eX1_assign_47, eX1_assign_48, eX1_assign_49, eX1_assign_50, eX1_assign_53, eX1_assign_54, eX1_assign_57, eX1_assign_60, eX1_assign_61, eX1_assign_64, eX1_assign_65, eX1_assign_66, eX1_assign_67, eX1_assign_70, eX1_assign_71, eX1_assign_72, eX1_assign_75, eX1_assign_78, eX1_assign_79, eX1_assign_80, eX1_assign_83, eX1_assign_84, eX1_assign_87, eX1_assign_88, Nat.add_zero, Nat.reduceAdd, Nat.reduceLeDiff, Nat.zero_le, and_true, o_aload_0r, o_callV_0, o_const_e, o_getf_e, o_goto_e, o_icmp_e, o_if_e, o_iload_1, o_iload_2, o_iload_3, o_iret_e, o_ist_3, o_putf_e, tl_n, tl_s, true_and, xfit_a, xfit_i, xfit_l, xfit_o, xnlv_i, xnlv_n, xnlv_r, xwt_0, xwt_f, xwt_i, xwt_l, xwt_r, not_true_eq_false, not_false_eq_true, true_implies, false_implies, and_true, true_and, implies_true, forall_const, ↓reduceIte, Bool.false_eq_true, i10, i10n, h.cls, h.g0, h.g1, h.g2, h.g3, h.g4, h.g5, h.g6, h.g7, h.g8, h.g9, h.g10, h.g11, h.p8 (v := m), n1, eq_nI (a := 1) (b := 1) (by omega) (by omega), eq_self]
        have h2 := h.put (x.wne m) lk pr
        refine ⟨fun _ => ?_, fun g => by omega⟩
        rw [h2.cls, true_and]
        refine c_link h2 (ok_wne ok (by omega)) (fun lk' hl => ?_)
        simp only [eX1_assign_0, eX1_assign_1, eX1_assign_4, eX1_assign_5, eX1_assign_6, eX1_assign_9, eX1_assign_10, eX1_assign_11, eX1_assign_12, eX1_assign_15, eX1_assign_16, eX1_assign_17, eX1_assign_20, eX1_assign_22, eX1_assign_25, eX1_assign_26, eX1_assign_29, eX1_assign_31, eX1_assign_32, eX1_assign_33, eX1_assign_36, eX1_assign_37, eX1_assign_40, eX1_assign_41, eX1_assign_42, eX1_assign_43, eX1_assign_46, eX1_assign_47, eX1_assign_48, eX1_assign_49, eX1_assign_50, eX1_assign_53, eX1_assign_54, eX1_assign_57, eX1_assign_60, eX1_assign_61, eX1_assign_64, eX1_assign_65, eX1_assign_66, eX1_assign_67, eX1_assign_70, eX1_assign_71, eX1_assign_72, eX1_assign_75, eX1_assign_78, eX1_assign_79, eX1_assign_80, eX1_assign_83, eX1_assign_84, eX1_assign_87, eX1_assign_88, Nat.add_zero, Nat.reduceAdd, Nat.reduceLeDiff, Nat.zero_le, and_true, o_aload_0r, o_callV_0, o_const_e, o_getf_e, o_goto_e, o_icmp_e, o_if_e, o_iload_1, o_iload_2, o_iload_3, o_iret_e, o_ist_3, o_putf_e, tl_n, tl_s, true_and, xfit_a, xfit_i, xfit_l, xfit_o, xnlv_i, xnlv_n, xnlv_r, xwt_0, xwt_f, xwt_i, xwt_l, xwt_r]
        rw [latP_latP h.lt]
        exact k lk' pr hl hp
      · have := k lk pr hk hp
        rw [latP_self h] at this
        exact ⟨fun _ => this, fun g => absurd h0 g⟩
      · have := k lk pr hk hp
        rw [latP_self h] at this
        refine ⟨fun g => absurd g h0, fun _ => ⟨fun g => ?_, fun _ => this⟩⟩
        rw [Int32.le_iff_toInt_le] at g h1
        omega
    · simp only [eX1_assign_0, eX1_assign_1, eX1_assign_4, eX1_assign_5, eX1_assign_6, eX1_assign_9, eX1_assign_10, eX1_assign_11, eX1_assign_12, eX1_assign_15, eX1_assign_16, eX1_assign_17, eX1_assign_20, eX1_assign_22, eX1_assign_25, eX1_assign_26, eX1_assign_29, eX1_assign_31, eX1_assign_32, eX1_assign_33, eX1_assign_36, eX1_assign_37, eX1_assign_40, eX1_assign_41, eX1_assign_42, eX1_assign_43, eX1_assign_46, eX1_assign_47, eX1_assign_48, eX1_assign_49, eX1_assign_50, eX1_assign_53, eX1_assign_54, eX1_assign_57, eX1_assign_60, eX1_assign_61, eX1_assign_64, eX1_assign_65, eX1_assign_66, eX1_assign_67, eX1_assign_70, eX1_assign_71, eX1_assign_72, eX1_assign_75, eX1_assign_78, eX1_assign_79, eX1_assign_80, eX1_assign_83, eX1_assign_84, eX1_assign_87, eX1_assign_88, Nat.add_zero, Nat.reduceAdd, Nat.reduceLeDiff, Nat.zero_le, and_true, o_aload_0r, o_callV_0, o_const_e, o_getf_e, o_goto_e, o_icmp_e, o_if_e, o_iload_1, o_iload_2, o_iload_3, o_iret_e, o_ist_3, o_putf_e, tl_n, tl_s, true_and, xfit_a, xfit_i, xfit_l, xfit_o, xnlv_i, xnlv_n, xnlv_r, xwt_0, xwt_f, xwt_i, xwt_l, xwt_r, n2, lt0_nI (a := 2) (by omega), le_nI (a := 2) (b := 2) (by omega) (by omega), eq0_nI (a := 2) (by omega), n1, eq_nI (a := 2) (b := 1) (by omega) (by omega), not_true_eq_false, not_false_eq_true, true_implies, false_implies, and_true, true_and, implies_true, forall_const, ↓reduceIte, Bool.false_eq_true, i10, i10n, eq_self, Nat.reduceEqDiff, Nat.reduceLeDiff]
      rcases ix_cases (n := 3) (by omega) v with ⟨m, hm, rfl, e⟩ | ⟨h0, e⟩ | ⟨h0, h1, e⟩ <;> simp only [e] at k
      · rw [lt0_nI (by omega), le_nI (by omega) (by decide)]
        simp only [eX1_assign_0, eX1_assign_1, eX1_assign_4, eX1_assign_5, eX1_assign_6, eX1_assign_9, eX1_assign_10, eX1_assign_11, eX1_assign_12, eX1_assign_15, eX1_assign_16, eX1_assign_17, eX1_assign_20, eX1_assign_22, eX1_assign_25, eX1_assign_26, eX1_assign_29, eX1_assign_31, eX1_assign_32, eX1_assign_33, eX1_assign_36, eX1_assign_37, eX1_assign_40, eX1_assign_41, eX1_assign_42, eX1_assign_43, eX1_assign_46, eX1_assign_47, eX1_assign_48, eX1_assign_49, eX1_assign_50, eX1_assign_53, eX1_assign_54, eX1_assign_57, eX1_assign_60, eX1_assign_61, eX1_assign_64, eX1_assign_65, eX1_assign_66, eX1_assign_67, eX1_assign_70, eX1_assign_71, eX1_assign_72, eX1_assign_75, eX1_assign_78, eX1_assign_79, eX1_assign_80, eX1_assign_83, eX1_assign_84, eX1_assign_87, eX1_assign_88, Nat.add_zero, Nat.reduceAdd, Nat.reduceLeDiff, Nat.zero_le, and_true, o_aload_0r, o_callV_0, o_const_e, o_getf_e, o_goto_e, o_icmp_e, o_if_e, o_iload_1, o_iload_2, o_iload_3, o_iret_e, o_ist_3, o_putf_e, tl_n, tl_s, true_and, xfit_a, xfit_i, xfit_l, xfit_o, xnlv_i, xnlv_n, xnlv_r, xwt_0, xwt_f, xwt_i, xwt_l, xwt_r, not_true_eq_false, not_false_eq_true, true_implies, false_implies, and_true, true_and, implies_true, forall_const, ↓reduceIte, Bool.false_eq_true, i10, i10n, h.cls, h.g0, h.g1, h.g2, h.g3, h.g4, h.g5, h.g6, h.g7, h.g8, h.g9, h.g10, h.g11, h.p9 (v := m), n1, eq_nI (a := 2) (b := 1) (by omega) (by omega), Nat.reduceEqDiff]
        have h2 := h.put (x.wed m) lk pr
        refine ⟨fun _ => ?_, fun g => by omega⟩
        rw [h2.cls, true_and]
        refine c_link h2 (ok_wed ok (by omega)) (fun lk' hl => ?_)
        simp only [eX1_assign_0, eX1_assign_1, eX1_assign_4, eX1_assign_5, eX1_assign_6, eX1_assign_9, eX1_assign_10, eX1_assign_11, eX1_assign_12, eX1_assign_15, eX1_assign_16, eX1_assign_17, eX1_assign_20, eX1_assign_22, eX1_assign_25, eX1_assign_26, eX1_assign_29, eX1_assign_31, eX1_assign_32, eX1_assign_33, eX1_assign_36, eX1_assign_37, eX1_assign_40, eX1_assign_41, eX1_assign_42, eX1_assign_43, eX1_assign_46, eX1_assign_47, eX1_assign_48, eX1_assign_49, eX1_assign_50, eX1_assign_53, eX1_assign_54, eX1_assign_57, eX1_assign_60, eX1_assign_61, eX1_assign_64, eX1_assign_65, eX1_assign_66, eX1_assign_67, eX1_assign_70, eX1_assign_71, eX1_assign_72, eX1_assign_75, eX1_assign_78, eX1_assign_79, eX1_assign_80, eX1_assign_83, eX1_assign_84, eX1_assign_87, eX1_assign_88, Nat.add_zero, Nat.reduceAdd, Nat.reduceLeDiff, Nat.zero_le, and_true, o_aload_0r, o_callV_0, o_const_e, o_getf_e, o_goto_e, o_icmp_e, o_if_e, o_iload_1, o_iload_2, o_iload_3, o_iret_e, o_ist_3, o_putf_e, tl_n, tl_s, true_and, xfit_a, xfit_i, xfit_l, xfit_o, xnlv_i, xnlv_n, xnlv_r, xwt_0, xwt_f, xwt_i, xwt_l, xwt_r]
        rw [latP_latP h.lt]
        exact k lk' pr hl hp
      · have := k lk pr hk hp
        rw [latP_self h] at this
        exact ⟨fun _ => this, fun g => absurd h0 g⟩
      · have := k lk pr hk hp
        rw [latP_self h] at this
        refine ⟨fun g => absurd g h0, fun _ => ⟨fun g => ?_, fun _ => this⟩⟩
        rw [Int32.le_iff_toInt_le] at g h1
        omega
  · have := k lk pr hk hp
    rw [latP_self h] at this
    simp only [eX1_assign_0, eX1_assign_1, eX1_assign_4, eX1_assign_5, eX1_assign_6, eX1_assign_9, eX1_assign_10, eX1_assign_12, eX1_assign_15, eX1_assign_16, eX1_assign_17, eX1_assign_20, eX1_assign_22, eX1_assign_25, eX1_assign_26, eX1_assign_29, eX1_assign_31, eX1_assign_32, eX1_assign_33, eX1_assign_36, eX1_assign_37, eX1_assign_40, eX1_assign_41, eX1_assign_42, eX1_assign_43, eX1_assign_46, eX1_assign_47, eX1_assign_48, eX1_assign_49, eX1_assign_50, eX1_assign_53, eX1_assign_54, eX1_assign_57, eX1_assign_60, eX1_assign_61, eX1_assign_64, eX1_assign_65, eX1_assign_66, eX1_assign_67, eX1_assign_70, eX1_assign_71, eX1_assign_72, eX1_assign_75, eX1_assign_78, eX1_assign_79, eX1_assign_80, eX1_assign_83, eX1_assign_84, eX1_assign_87, eX1_assign_88, Nat.add_zero, Nat.reduceAdd, Nat.reduceLeDiff, Nat.zero_le, and_true, o_aload_0r, o_callV_0, o_const_e, o_getf_e, o_goto_e, o_icmp_e, o_if_e, o_iload_1, o_iload_2, o_iload_3, o_iret_e, o_ist_3, o_putf_e, tl_n, tl_s, true_and, xfit_a, xfit_i, xfit_l, xfit_o, xnlv_i, xnlv_n, xnlv_r, xwt_0, xwt_f, xwt_i, xwt_l, xwt_r, h0, not_true_eq_false, not_false_eq_true, true_implies, false_implies, and_true, true_and, implies_true, forall_const, ↓reduceIte, Bool.false_eq_true, i10, i10n]
    exact this
  · have := k lk pr hk hp
    rw [latP_self h] at this
    have h2 : ¬ w ≤ nI 2 := by rw [Int32.le_iff_toInt_le] at h1 ⊢; omega
    simp only [eX1_assign_0, eX1_assign_1, eX1_assign_4, eX1_assign_5, eX1_assign_6, eX1_assign_9, eX1_assign_10, eX1_assign_12, eX1_assign_15, eX1_assign_16, eX1_assign_17, eX1_assign_20, eX1_assign_22, eX1_assign_25, eX1_assign_26, eX1_assign_29, eX1_assign_31, eX1_assign_32, eX1_assign_33, eX1_assign_36, eX1_assign_37, eX1_assign_40, eX1_assign_41, eX1_assign_42, eX1_assign_43, eX1_assign_46, eX1_assign_47, eX1_assign_48, eX1_assign_49, eX1_assign_50, eX1_assign_53, eX1_assign_54, eX1_assign_57, eX1_assign_60, eX1_assign_61, eX1_assign_64, eX1_assign_65, eX1_assign_66, eX1_assign_67, eX1_assign_70, eX1_assign_71, eX1_assign_72, eX1_assign_75, eX1_assign_78, eX1_assign_79, eX1_assign_80, eX1_assign_83, eX1_assign_84, eX1_assign_87, eX1_assign_88, Nat.add_zero, Nat.reduceAdd, Nat.reduceLeDiff, Nat.zero_le, and_true, o_aload_0r, o_callV_0, o_const_e, o_getf_e, o_goto_e, o_icmp_e, o_if_e, o_iload_1, o_iload_2, o_iload_3, o_iret_e, o_ist_3, o_putf_e, tl_n, tl_s, true_and, xfit_a, xfit_i, xfit_l, xfit_o, xnlv_i, xnlv_n, xnlv_r, xwt_0, xwt_f, xwt_i, xwt_l, xwt_r, h0, n2, h2, not_true_eq_false, not_false_eq_true, true_implies, false_implies, and_true, true_and, implies_true, forall_const, ↓reduceIte, Bool.false_eq_true, i10, i10n]
    exact this
end LAT6
