/-! a lattice of the class, as its cells hold it -/
abbrev cI (n : Nat) (f : Nat → Int32) : xE := .inl (n, .inl f)
abbrev cL (n : Nat) (f : Nat → Int64) : xE := .inl (n, .inr (.inl f))
def latO (b : Nat) (x : sLat) : xE := .inr (1, [.ref (b + 1), .ref (b + 2), .ref (b + 3), .ref (b + 4), .int (nI x.hi), .int (nI x.wi), .int (nI x.he), .int x.se, .int (nI x.ne), .int (nI x.ed), .int (nI x.ki), .int (nI x.nu)])
def LatAt (AH : xH) (b : Nat) (x : sLat) (lk pr : Nat → Int32) : Prop := AH[b]? = some (latO b x) ∧ AH[b + 1]? = some (cI 36 (fun i => nI (x.mk i))) ∧ AH[b + 2]? = some (cI 36 (fun i => nI (x.pn i))) ∧ AH[b + 3]? = some (cI 288 lk) ∧ AH[b + 4]? = some (cI 64 pr)
/-- the lattice at b becomes another one -/
def latP (AH : xH) (b : Nat) (x : sLat) (lk pr : Nat → Int32) : xH := ((((AH.set b (latO b x)).set (b + 1) (cI 36 (fun i => nI (x.mk i)))).set (b + 2) (cI 36 (fun i => nI (x.pn i)))).set (b + 3) (cI 288 lk)).set (b + 4) (cI 64 pr)
section LAT
variable {AH : xH} {b : Nat} {x : sLat} {lk pr : Nat → Int32}
theorem xgf_of {AH : xH} {a ci kx : Nat} {fs : List Value} {v : Value} {K : Value → Prop} (h : AH[a]? = some (.inr (ci, fs))) (hv : fs[kx]? = some v) : xgf AH a ci kx K = K v := by
  unfold xgf
  rw [h]
  simp only [hv, true_and]
theorem xpf_of {AH : xH} {a ci kx : Nat} {fs : List Value} {v : Value} {K : xH → Prop} (h : AH[a]? = some (.inr (ci, fs))) (hv : kx < fs.length) : xpf AH a ci kx v K = K (AH.set a (.inr (ci, fs.set kx v))) := by
  unfold xpf
  rw [h]
  simp only [hv, true_and]
theorem xald_of {AH : xH} {a n c : Nat} {f : Nat → Int32} {K : Int32 → Prop} (h : AH[a]? = some (.inl (n, .inl f))) (hc : c < n) (hn : n < 2 ^ 31) : xald AH a (nI c) K = K (f c) := by
  unfold xald
  rw [h]
  have := vp_in_nI hc hn
  simp only [this, true_and, nI_clamp (Nat.lt_trans hc hn)]
theorem xast_of {AH : xH} {a n c : Nat} {f : Nat → Int32} {v : Int32} {K : xH → Prop} (h : AH[a]? = some (.inl (n, .inl f))) (hc : c < n) (hn : n < 2 ^ 31) : xast AH a (nI c) v K = K (AH.set a (.inl (n, .inl (upd f c v)))) := by
  unfold xast
  rw [h]
  have := vp_in_nI hc hn
  simp only [this, true_and, nI_clamp (Nat.lt_trans hc hn)]
theorem xalen_of {AH : xH} {a : Nat} {y : vp_A} {K : Int32 → Prop} (h : AH[a]? = some (.inl y)) : xalen AH a K = K (nI y.1) := by
  unfold xalen
  rw [h]
  rfl
theorem xcls_of {AH : xH} {a ci : Nat} {fs : List Value} (h : AH[a]? = some (.inr (ci, fs))) : xcls AH a ci = True := by
  unfold xcls
  rw [h]
  simp
theorem upd_nI (f : Nat → Nat) (c v : Nat) : upd (fun i => nI (f i)) c (nI v) = fun i => nI (va_up f c v i) := by
  funext j
  unfold upd va_up
  split <;> rfl
theorem LatAt.lt (h : LatAt AH b x lk pr) : b + 4 < AH.length := (List.getElem?_eq_some_iff.mp h.2.2.2.2).1
theorem latP_get (hl : b + 4 < AH.length) (j : Nat) : (latP AH b x lk pr)[j]? = if j = b then some (latO b x) else if j = b + 1 then some (cI 36 (fun i => nI (x.mk i))) else if j = b + 2 then some (cI 36 (fun i => nI (x.pn i))) else if j = b + 3 then some (cI 288 lk) else if j = b + 4 then some (cI 64 pr) else AH[j]? := by
  unfold latP
  simp only [List.getElem?_set, List.length_set]
  by_cases h0 : j = b
  · subst h0; simp [show j < AH.length by omega]
  by_cases h1 : j = b + 1
  · subst h1; simp [show b + 1 < AH.length by omega]
  by_cases h2 : j = b + 2
  · subst h2; simp [show b + 2 < AH.length by omega]
  by_cases h3 : j = b + 3
  · subst h3; simp [show b + 3 < AH.length by omega]
  by_cases h4 : j = b + 4
  · subst h4; simp [show b + 4 < AH.length by omega]
  simp [h0, h1, h2, h3, h4, Ne.symm h0, Ne.symm h1, Ne.symm h2, Ne.symm h3, Ne.symm h4]
theorem latP_len : (latP AH b x lk pr).length = AH.length := by simp [latP]
theorem LatAt.put (h : LatAt AH b x lk pr) (y : sLat) (lk' pr' : Nat → Int32) : LatAt (latP AH b y lk' pr') b y lk' pr' := by
  refine ⟨?_, ?_, ?_, ?_, ?_⟩ <;> rw [latP_get h.lt] <;> simp
theorem latP_self (h : LatAt AH b x lk pr) : latP AH b x lk pr = AH := by
  apply List.ext_getElem?
  intro j
  rw [latP_get h.lt]
  split
  · rename_i e; subst e; exact h.1.symm
  split
  · rename_i e; subst e; exact h.2.1.symm
  split
  · rename_i e; subst e; exact h.2.2.1.symm
  split
  · rename_i e; subst e; exact h.2.2.2.1.symm
  split
  · rename_i e; subst e; exact h.2.2.2.2.symm
  rfl
theorem latP_latP (hl : b + 4 < AH.length) {y : sLat} {lk' pr' : Nat → Int32} : latP (latP AH b x lk pr) b y lk' pr' = latP AH b y lk' pr' := by
  apply List.ext_getElem?
  intro j
  rw [latP_get (by rw [latP_len]; exact hl), latP_get hl, latP_get hl]
  repeat' split
  all_goals rfl
theorem LatAt.out (h : LatAt AH b x lk pr) {y : sLat} {lk' pr' : Nat → Int32} {j : Nat} (hj : j < b ∨ b + 4 < j) : (latP AH b y lk' pr')[j]? = AH[j]? := by
  rw [latP_get h.lt, if_neg (by omega), if_neg (by omega), if_neg (by omega), if_neg (by omega), if_neg (by omega)]
theorem LatAt.cls (h : LatAt AH b x lk pr) : xcls AH b 1 = True := xcls_of h.1
theorem LatAt.g0 (h : LatAt AH b x lk pr) {K : Value → Prop} : xgf AH b 1 0 K = K (.ref (b + 1)) := xgf_of h.1 rfl
theorem LatAt.g1 (h : LatAt AH b x lk pr) {K : Value → Prop} : xgf AH b 1 1 K = K (.ref (b + 2)) := xgf_of h.1 rfl
theorem LatAt.g2 (h : LatAt AH b x lk pr) {K : Value → Prop} : xgf AH b 1 2 K = K (.ref (b + 3)) := xgf_of h.1 rfl
theorem LatAt.g3 (h : LatAt AH b x lk pr) {K : Value → Prop} : xgf AH b 1 3 K = K (.ref (b + 4)) := xgf_of h.1 rfl
theorem LatAt.g4 (h : LatAt AH b x lk pr) {K : Value → Prop} : xgf AH b 1 4 K = K (.int (nI x.hi)) := xgf_of h.1 rfl
theorem LatAt.g5 (h : LatAt AH b x lk pr) {K : Value → Prop} : xgf AH b 1 5 K = K (.int (nI x.wi)) := xgf_of h.1 rfl
theorem LatAt.g6 (h : LatAt AH b x lk pr) {K : Value → Prop} : xgf AH b 1 6 K = K (.int (nI x.he)) := xgf_of h.1 rfl
theorem LatAt.g7 (h : LatAt AH b x lk pr) {K : Value → Prop} : xgf AH b 1 7 K = K (.int x.se) := xgf_of h.1 rfl
theorem LatAt.g8 (h : LatAt AH b x lk pr) {K : Value → Prop} : xgf AH b 1 8 K = K (.int (nI x.ne)) := xgf_of h.1 rfl
theorem LatAt.g9 (h : LatAt AH b x lk pr) {K : Value → Prop} : xgf AH b 1 9 K = K (.int (nI x.ed)) := xgf_of h.1 rfl
theorem LatAt.g10 (h : LatAt AH b x lk pr) {K : Value → Prop} : xgf AH b 1 10 K = K (.int (nI x.ki)) := xgf_of h.1 rfl
theorem LatAt.g11 (h : LatAt AH b x lk pr) {K : Value → Prop} : xgf AH b 1 11 K = K (.int (nI x.nu)) := xgf_of h.1 rfl
theorem LatAt.rm (h : LatAt AH b x lk pr) {c : Nat} (hc : c < 36) {K : Int32 → Prop} : xald AH (b + 1) (nI c) K = K (nI (x.mk c)) := xald_of h.2.1 hc (by decide)
theorem LatAt.rp (h : LatAt AH b x lk pr) {c : Nat} (hc : c < 36) {K : Int32 → Prop} : xald AH (b + 2) (nI c) K = K (nI (x.pn c)) := xald_of h.2.2.1 hc (by decide)
theorem LatAt.rl (h : LatAt AH b x lk pr) {c : Nat} (hc : c < 288) {K : Int32 → Prop} : xald AH (b + 3) (nI c) K = K (lk c) := xald_of h.2.2.2.1 hc (by decide)
theorem LatAt.rr (h : LatAt AH b x lk pr) {c : Nat} (hc : c < 64) {K : Int32 → Prop} : xald AH (b + 4) (nI c) K = K (pr c) := xald_of h.2.2.2.2 hc (by decide)
theorem lat_ext (h : LatAt AH b x lk pr) {y : sLat} {lk' pr' : Nat → Int32} {i : Nat} {e : xE} (h0 : i = b ∧ e = latO b y ∨ i ≠ b ∧ latO b y = latO b x) (h1 : i = b + 1 ∧ e = cI 36 (fun i => nI (y.mk i)) ∨ i ≠ b + 1 ∧ y.mk = x.mk) (h2 : i = b + 2 ∧ e = cI 36 (fun i => nI (y.pn i)) ∨ i ≠ b + 2 ∧ y.pn = x.pn) (h3 : i = b + 3 ∧ e = cI 288 lk' ∨ i ≠ b + 3 ∧ lk' = lk) (h4 : i = b + 4 ∧ e = cI 64 pr' ∨ i ≠ b + 4 ∧ pr' = pr) (hi : b ≤ i ∧ i ≤ b + 4) : AH.set i e = latP AH b y lk' pr' := by
  have hl := h.lt
  apply List.ext_getElem?
  intro j
  rw [latP_get hl, List.getElem?_set]
  by_cases e0 : j = b
  · subst e0
    rcases h0 with ⟨rfl, rfl⟩ | ⟨g, g2⟩
    · simp [show i < AH.length by omega]
    · rw [if_neg g, if_pos rfl, g2]; exact h.1
  by_cases e1 : j = b + 1
  · subst e1
    rcases h1 with ⟨rfl, rfl⟩ | ⟨g, g2⟩
    · simp [show b + 1 < AH.length by omega]
    · rw [if_neg g, if_neg e0, if_pos rfl, g2]; exact h.2.1
  by_cases e2 : j = b + 2
  · subst e2
    rcases h2 with ⟨rfl, rfl⟩ | ⟨g, g2⟩
    · simp [show b + 2 < AH.length by omega]
    · rw [if_neg g, if_neg e0, if_neg e1, if_pos rfl, g2]; exact h.2.2.1
  by_cases e3 : j = b + 3
  · subst e3
    rcases h3 with ⟨rfl, rfl⟩ | ⟨g, g2⟩
    · simp [show b + 3 < AH.length by omega]
    · rw [if_neg g, if_neg e0, if_neg e1, if_neg e2, if_pos rfl, g2]; exact h.2.2.2.1
  by_cases e4 : j = b + 4
  · subst e4
    rcases h4 with ⟨rfl, rfl⟩ | ⟨g, g2⟩
    · simp [show b + 4 < AH.length by omega]
    · rw [if_neg g, if_neg e0, if_neg e1, if_neg e2, if_neg e3, if_pos rfl, g2]; exact h.2.2.2.2
  rw [if_neg (by omega), if_neg e0, if_neg e1, if_neg e2, if_neg e3, if_neg e4]
theorem LatAt.wm (h : LatAt AH b x lk pr) {c v : Nat} (hc : c < 36) {K : xH → Prop} : xast AH (b + 1) (nI c) (nI v) K = K (latP AH b (x.wmk c v) lk pr) := by
  rw [xast_of h.2.1 hc (by decide), upd_nI]
  congr 1
  exact lat_ext h (Or.inr ⟨by omega, rfl⟩) (Or.inl ⟨rfl, rfl⟩) (Or.inr ⟨by omega, rfl⟩) (Or.inr ⟨by omega, rfl⟩) (Or.inr ⟨by omega, rfl⟩) (by omega)
theorem LatAt.wp (h : LatAt AH b x lk pr) {c v : Nat} (hc : c < 36) {K : xH → Prop} : xast AH (b + 2) (nI c) (nI v) K = K (latP AH b (x.wpn c v) lk pr) := by
  rw [xast_of h.2.2.1 hc (by decide), upd_nI]
  congr 1
  exact lat_ext h (Or.inr ⟨by omega, rfl⟩) (Or.inr ⟨by omega, rfl⟩) (Or.inl ⟨rfl, rfl⟩) (Or.inr ⟨by omega, rfl⟩) (Or.inr ⟨by omega, rfl⟩) (by omega)
theorem LatAt.wl (h : LatAt AH b x lk pr) {c : Nat} {v : Int32} (hc : c < 288) {K : xH → Prop} : xast AH (b + 3) (nI c) v K = K (latP AH b x (upd lk c v) pr) := by
  rw [xast_of h.2.2.2.1 hc (by decide)]
  congr 1
  exact lat_ext h (Or.inr ⟨by omega, rfl⟩) (Or.inr ⟨by omega, rfl⟩) (Or.inr ⟨by omega, rfl⟩) (Or.inl ⟨rfl, rfl⟩) (Or.inr ⟨by omega, rfl⟩) (by omega)
theorem LatAt.wr (h : LatAt AH b x lk pr) {c : Nat} {v : Int32} (hc : c < 64) {K : xH → Prop} : xast AH (b + 4) (nI c) v K = K (latP AH b x lk (upd pr c v)) := by
  rw [xast_of h.2.2.2.2 hc (by decide)]
  congr 1
  exact lat_ext h (Or.inr ⟨by omega, rfl⟩) (Or.inr ⟨by omega, rfl⟩) (Or.inr ⟨by omega, rfl⟩) (Or.inr ⟨by omega, rfl⟩) (Or.inl ⟨rfl, rfl⟩) (by omega)
theorem LatAt.p7 (h : LatAt AH b x lk pr) {s : Int32} {K : xH → Prop} : xpf AH b 1 7 (.int s) K = K (latP AH b (x.wse s) lk pr) := by
  rw [xpf_of (fs := _) h.1 (by simp)]
  congr 1
  exact lat_ext h (Or.inl ⟨rfl, rfl⟩) (Or.inr ⟨by omega, rfl⟩) (Or.inr ⟨by omega, rfl⟩) (Or.inr ⟨by omega, rfl⟩) (Or.inr ⟨by omega, rfl⟩) (by omega)
theorem LatAt.p6 (h : LatAt AH b x lk pr) {v : Nat} {K : xH → Prop} : xpf AH b 1 6 (.int (nI v)) K = K (latP AH b (x.whe v) lk pr) := by
  rw [xpf_of (fs := _) h.1 (by simp)]
  congr 1
  exact lat_ext h (Or.inl ⟨rfl, rfl⟩) (Or.inr ⟨by omega, rfl⟩) (Or.inr ⟨by omega, rfl⟩) (Or.inr ⟨by omega, rfl⟩) (Or.inr ⟨by omega, rfl⟩) (by omega)
/-- what the rows of links and prices hold -/
def lkV (r : Option Nat) : Int32 := match r with
  | none => -5
  | some j => nI j
def LkOK (x : sLat) (lk : Nat → Int32) : Prop := ∀ c d, c < x.n → d < x.nd → lk (c * 8 + d) = lkV (x.nb c d)
def PrOK (x : sLat) (pr : Nat → Int32) : Prop := ∀ a d, a < 8 → d < 8 → pr (a * 8 + d) = nI (x.P a d)
/-- Lattice.cells() -/
theorem c_cells (h : LatAt AH b x lk pr) {Q : Option Value → xH → Prop} (k : Q (some (.int (nI x.n))) AH) : XC MX1_cells [.ref b] AH Q := by
  refine XC.ofR (L := [some (.ref b)]) KX1_cells (by decide +kernel) (by first | decide | exact Nat.le_of_ble_eq_true rfl) rfl ?_
  simp only [eX1_cells_0, eX1_cells_1, eX1_cells_4, eX1_cells_5, eX1_cells_8, eX1_cells_9, o_aload_0r, o_getf_e, o_ii_e, o_iret_e, h.cls, h.g0, h.g1, h.g2, h.g3, h.g4, h.g5, h.g6, h.g7, h.g8, h.g9, h.g10, h.g11, pk_mul]
  exact k
/-- Lattice.directions() -/
theorem c_directions (h : LatAt AH b x lk pr) (ok : x.ok) {Q : Option Value → xH → Prop} (k : Q (some (.int (nI x.nd))) AH) : XC MX1_directions [.ref b] AH Q := by
  refine XC.ofR (L := [some (.ref b)]) KX1_directions (by decide +kernel) (by first | decide | exact Nat.le_of_ble_eq_true rfl) rfl ?_
  simp only [eX1_directions_0, eX1_directions_1, eX1_directions_4, eX1_directions_7, eX1_directions_8, eX1_directions_11, eX1_directions_12, eX1_directions_15, eX1_directions_16, eX1_directions_19, eX1_directions_21, eX1_directions_24, eX1_directions_26, o_aload_0r, o_const_e, o_getf_e, o_goto_e, o_icmp_e, o_if_e, o_iret_e, h.cls, h.g0, h.g1, h.g2, h.g3, h.g4, h.g5, h.g6, h.g7, h.g8, h.g9, h.g10, h.g11]
  have h2 := ok.2.2.2.2.2.1
  unfold sLat.nd at k
  rcases (show x.ne = 0 ∨ x.ne = 1 ∨ x.ne = 2 by omega) with e | e | e <;> rw [e] at k ⊢ <;> simp [nI] at k ⊢ <;> exact k
/-- Lattice.hasCell(v) -/
theorem c_hasCell (h : LatAt AH b x lk pr) (ok : x.ok) {v : Int32} {Q : Option Value → xH → Prop} (k : Q (some (.int (if (ix x.n v).isSome then 1 else 0))) AH) : XC MX1_hasCell [.ref b, .int v] AH Q := by
  have hn := sLat.n36 ok
  refine XC.ofR (L := [some (.ref b), some (.int v)]) KX1_hasCell (by decide +kernel) (by first | decide | exact Nat.le_of_ble_eq_true rfl) rfl ?_
  simp only [eX1_hasCell_0, eX1_hasCell_1, eX1_hasCell_4, eX1_hasCell_5, eX1_hasCell_6, eX1_hasCell_9, eX1_hasCell_12, eX1_hasCell_13, eX1_hasCell_16, eX1_hasCell_17, Nat.add_zero, Nat.reduceAdd, Nat.reduceLeDiff, Nat.zero_le, and_true, o_aload_0r, o_callV_0, o_const_e, o_goto_e, o_icmp_e, o_if_e, o_iload_1, o_zret_0, o_zret_1, tl_n, tl_s, true_and, xwt_0, xwt_f, xwt_i, xwt_l, xwt_r, h.cls, h.g0, h.g1, h.g2, h.g3, h.g4, h.g5, h.g6, h.g7, h.g8, h.g9, h.g10, h.g11]
  rcases ix_cases (n := x.n) (by omega) v with ⟨j, hj, rfl, e⟩ | ⟨h0, e⟩ | ⟨h0, h1, e⟩ <;> rw [e] at k
  · refine ⟨fun g => absurd g (nI_pos (by omega)), fun _ => c_cells h ?_⟩
    simp only [eX1_hasCell_0, eX1_hasCell_1, eX1_hasCell_4, eX1_hasCell_5, eX1_hasCell_6, eX1_hasCell_9, eX1_hasCell_12, eX1_hasCell_13, eX1_hasCell_16, eX1_hasCell_17, Nat.add_zero, Nat.reduceAdd, Nat.reduceLeDiff, Nat.zero_le, and_true, o_aload_0r, o_callV_0, o_const_e, o_goto_e, o_icmp_e, o_if_e, o_iload_1, o_zret_0, o_zret_1, tl_n, tl_s, true_and, xwt_0, xwt_f, xwt_i, xwt_l, xwt_r, le_nI (a := x.n) (b := j) (by omega) (by omega)]
    exact ⟨fun g => by omega, fun _ => k⟩
  · exact ⟨fun _ => k, fun g => absurd h0 g⟩
  · refine ⟨fun g => absurd g h0, fun _ => c_cells h ?_⟩
    simp only [eX1_hasCell_0, eX1_hasCell_1, eX1_hasCell_4, eX1_hasCell_5, eX1_hasCell_6, eX1_hasCell_9, eX1_hasCell_12, eX1_hasCell_13, eX1_hasCell_16, eX1_hasCell_17, Nat.add_zero, Nat.reduceAdd, Nat.reduceLeDiff, Nat.zero_le, and_true, o_aload_0r, o_callV_0, o_const_e, o_goto_e, o_icmp_e, o_if_e, o_iload_1, o_zret_0, o_zret_1, tl_n, tl_s, true_and, xwt_0, xwt_f, xwt_i, xwt_l, xwt_r]
    exact ⟨fun _ => k, fun g => absurd h1 g⟩
/-- Lattice.energyWith(c, v) -/
theorem l_energyWith (h : LatAt AH b x lk pr) (ok : x.ok) (hk : LkOK x lk) (hp : PrOK x pr) {c v : Nat} (hc : c < x.n) (hv : v < 8) {Q : xQ} (k : Q (some (.int (nI (x.E c v)))) AH (0, 0)) : ∀ (m j : Nat), j + m = x.nd → ∀ w : Option Value,
    XR TX1_energyWith 21 [some (.ref b), some (.int (nI c)), some (.int (nI v)), some (.int (nI (sm (x.T c v) j))), some (.int (nI (c * 8))), some (.int (nI (c * 8 + x.nd))), some (.int (nI (c * 8 + j))), w] [] AH (0, 0) Q := by
  have hn := sLat.n36 ok
  have hnd := sLat.nd8 (x := x)
  intro m
  induction m with
  | zero =>
    intro j hj w
    rw [eX1_energyWith_21]
    simp only [eX1_energyWith_0, eX1_energyWith_1, eX1_energyWith_2, eX1_energyWith_3, eX1_energyWith_5, eX1_energyWith_6, eX1_energyWith_8, eX1_energyWith_10, eX1_energyWith_11, eX1_energyWith_14, eX1_energyWith_15, eX1_energyWith_17, eX1_energyWith_19, eX1_energyWith_23, eX1_energyWith_25, eX1_energyWith_28, eX1_energyWith_29, eX1_energyWith_32, eX1_energyWith_34, eX1_energyWith_35, eX1_energyWith_37, eX1_energyWith_39, eX1_energyWith_42, eX1_energyWith_43, eX1_energyWith_44, eX1_energyWith_47, eX1_energyWith_48, eX1_energyWith_50, eX1_energyWith_51, eX1_energyWith_52, eX1_energyWith_55, eX1_energyWith_57, eX1_energyWith_58, eX1_energyWith_59, eX1_energyWith_60, eX1_energyWith_61, eX1_energyWith_62, eX1_energyWith_65, eX1_energyWith_68, eX1_energyWith_69, Nat.add_zero, Nat.reduceAdd, Nat.reduceLeDiff, Nat.zero_le, and_true, o_aload_0r, o_callV_0, o_const_e, o_getf_e, o_goto_e, o_iald_e, o_iald_f, o_icmp_e, o_if_e, o_ii_e, o_iinc_6, o_iload_1, o_iload_2, o_iload_3, o_iload_4, o_iload_5, o_iload_6, o_iload_7, o_iret_e, o_ist_3, o_ist_4, o_ist_5, o_ist_6, o_ist_7, tl_n, tl_s, true_and, xnlv_i, xnlv_n, xnlv_r, xwt_0, xwt_f, xwt_i, xwt_l, xwt_r, le_nI (a := c*8+x.nd) (b := c*8+j) (by omega) (by omega)]
    refine ⟨fun _ => ?_, fun g => by omega⟩
    rw [show j = x.nd by omega]
    exact k
  | succ m ih =>
    intro j hj w
    rw [eX1_energyWith_21]
    simp only [eX1_energyWith_0, eX1_energyWith_1, eX1_energyWith_2, eX1_energyWith_3, eX1_energyWith_5, eX1_energyWith_6, eX1_energyWith_8, eX1_energyWith_10, eX1_energyWith_11, eX1_energyWith_14, eX1_energyWith_15, eX1_energyWith_17, eX1_energyWith_19, eX1_energyWith_23, eX1_energyWith_25, eX1_energyWith_28, eX1_energyWith_29, eX1_energyWith_32, eX1_energyWith_34, eX1_energyWith_35, eX1_energyWith_37, eX1_energyWith_39, eX1_energyWith_42, eX1_energyWith_43, eX1_energyWith_44, eX1_energyWith_47, eX1_energyWith_48, eX1_energyWith_50, eX1_energyWith_51, eX1_energyWith_52, eX1_energyWith_55, eX1_energyWith_57, eX1_energyWith_58, eX1_energyWith_59, eX1_energyWith_60, eX1_energyWith_61, eX1_energyWith_62, eX1_energyWith_65, eX1_energyWith_68, eX1_energyWith_69, Nat.add_zero, Nat.reduceAdd, Nat.reduceLeDiff, Nat.zero_le, and_true, o_aload_0r, o_callV_0, o_const_e, o_getf_e, o_goto_e, o_iald_e, o_iald_f, o_icmp_e, o_if_e, o_ii_e, o_iinc_6, o_iload_1, o_iload_2, o_iload_3, o_iload_4, o_iload_5, o_iload_6, o_iload_7, o_iret_e, o_ist_3, o_ist_4, o_ist_5, o_ist_6, o_ist_7, tl_n, tl_s, true_and, xnlv_i, xnlv_n, xnlv_r, xwt_0, xwt_f, xwt_i, xwt_l, xwt_r, le_nI (a := c*8+x.nd) (b := c*8+j) (by omega) (by omega), h.cls, h.g0, h.g1, h.g2, h.g3, h.g4, h.g5, h.g6, h.g7, h.g8, h.g9, h.g10, h.g11, h.rl (c := c*8+j) (by omega)]
    refine ⟨fun g => by omega, fun g => ?_⟩
    rw [hk c j hc (by omega)]
    cases hj2 : x.nb c j with
    | none =>
      have := ih (j + 1) (by omega) (some (.int (lkV none)))
      rw [sm, show x.T c v j = 0 by unfold sLat.T; rw [hj2]] at this
      simp only [lkV, nI_1] at this ⊢
      exact ⟨fun _ => this, fun g => absurd (by decide) g⟩
    | some z =>
      have hz := sLat.nb_36 ok hj2
      have hmz := ok.1 z
      refine ⟨fun g => absurd g (nI_pos (by omega)), fun _ => ?_⟩
      have := ih (j + 1) (by omega) (some (.int (nI z)))
      rw [sm, show x.T c v j = x.P v (x.mk z) by unfold sLat.T; rw [hj2]] at this
      simp only [eX1_energyWith_0, eX1_energyWith_1, eX1_energyWith_2, eX1_energyWith_3, eX1_energyWith_5, eX1_energyWith_6, eX1_energyWith_8, eX1_energyWith_10, eX1_energyWith_11, eX1_energyWith_14, eX1_energyWith_15, eX1_energyWith_17, eX1_energyWith_19, eX1_energyWith_23, eX1_energyWith_25, eX1_energyWith_28, eX1_energyWith_29, eX1_energyWith_32, eX1_energyWith_34, eX1_energyWith_35, eX1_energyWith_37, eX1_energyWith_39, eX1_energyWith_42, eX1_energyWith_43, eX1_energyWith_44, eX1_energyWith_47, eX1_energyWith_48, eX1_energyWith_50, eX1_energyWith_51, eX1_energyWith_52, eX1_energyWith_55, eX1_energyWith_57, eX1_energyWith_58, eX1_energyWith_59, eX1_energyWith_60, eX1_energyWith_61, eX1_energyWith_62, eX1_energyWith_65, eX1_energyWith_68, eX1_energyWith_69, Nat.add_zero, Nat.reduceAdd, Nat.reduceLeDiff, Nat.zero_le, and_true, o_aload_0r, o_callV_0, o_const_e, o_getf_e, o_goto_e, o_iald_e, o_iald_f, o_icmp_e, o_if_e, o_ii_e, o_iinc_6, o_iload_1, o_iload_2, o_iload_3, o_iload_4, o_iload_5, o_iload_6, o_iload_7, o_iret_e, o_ist_3, o_ist_4, o_ist_5, o_ist_6, o_ist_7, tl_n, tl_s, true_and, xnlv_i, xnlv_n, xnlv_r, xwt_0, xwt_f, xwt_i, xwt_l, xwt_r, lkV, h.cls, h.g0, h.g1, h.g2, h.g3, h.g4, h.g5, h.g6, h.g7, h.g8, h.g9, h.g10, h.g11, h.rm hz, n8, pk_mul, nI_add, h.rr (c := v * 8 + x.mk z) (by omega), hp v (x.mk z) hv hmz, nI_1]
      exact this
theorem c_energyWith (h : LatAt AH b x lk pr) (ok : x.ok) (hk : LkOK x lk) (hp : PrOK x pr) {c v : Nat} (hc : c < x.n) (hv : v < 8) {Q : Option Value → xH → Prop} (k : Q (some (.int (nI (x.E c v)))) AH) : XC MX1_energyWith [.ref b, .int (nI c), .int (nI v)] AH Q := by
  refine XC.ofR (L := [some (.ref b), some (.int (nI c)), some (.int (nI v)), none, none, none, none, none]) KX1_energyWith (by decide +kernel) (by first | decide | exact Nat.le_of_ble_eq_true rfl) rfl ?_
  simp only [eX1_energyWith_0, eX1_energyWith_1, eX1_energyWith_2, eX1_energyWith_3, eX1_energyWith_5, eX1_energyWith_6, eX1_energyWith_8, eX1_energyWith_10, eX1_energyWith_11, eX1_energyWith_14, eX1_energyWith_15, eX1_energyWith_17, eX1_energyWith_19, eX1_energyWith_23, eX1_energyWith_25, eX1_energyWith_28, eX1_energyWith_29, eX1_energyWith_32, eX1_energyWith_34, eX1_energyWith_35, eX1_energyWith_37, eX1_energyWith_39, eX1_energyWith_42, eX1_energyWith_43, eX1_energyWith_44, eX1_energyWith_47, eX1_energyWith_48, eX1_energyWith_50, eX1_energyWith_51, eX1_energyWith_52, eX1_energyWith_55, eX1_energyWith_57, eX1_energyWith_58, eX1_energyWith_59, eX1_energyWith_60, eX1_energyWith_61, eX1_energyWith_62, eX1_energyWith_65, eX1_energyWith_68, eX1_energyWith_69, Nat.add_zero, Nat.reduceAdd, Nat.reduceLeDiff, Nat.zero_le, and_true, o_aload_0r, o_callV_0, o_const_e, o_getf_e, o_goto_e, o_iald_e, o_iald_f, o_icmp_e, o_if_e, o_ii_e, o_iinc_6, o_iload_1, o_iload_2, o_iload_3, o_iload_4, o_iload_5, o_iload_6, o_iload_7, o_iret_e, o_ist_3, o_ist_4, o_ist_5, o_ist_6, o_ist_7, tl_n, tl_s, true_and, xnlv_i, xnlv_n, xnlv_r, xwt_0, xwt_f, xwt_i, xwt_l, xwt_r, h.cls, h.g0, h.g1, h.g2, h.g3, h.g4, h.g5, h.g6, h.g7, h.g8, h.g9, h.g10, h.g11, n8, pk_mul]
  refine c_directions h ok ?_
  simp only [eX1_energyWith_0, eX1_energyWith_1, eX1_energyWith_2, eX1_energyWith_3, eX1_energyWith_5, eX1_energyWith_6, eX1_energyWith_8, eX1_energyWith_10, eX1_energyWith_11, eX1_energyWith_14, eX1_energyWith_15, eX1_energyWith_17, eX1_energyWith_19, eX1_energyWith_23, eX1_energyWith_25, eX1_energyWith_28, eX1_energyWith_29, eX1_energyWith_32, eX1_energyWith_34, eX1_energyWith_35, eX1_energyWith_37, eX1_energyWith_39, eX1_energyWith_42, eX1_energyWith_43, eX1_energyWith_44, eX1_energyWith_47, eX1_energyWith_48, eX1_energyWith_50, eX1_energyWith_51, eX1_energyWith_52, eX1_energyWith_55, eX1_energyWith_57, eX1_energyWith_58, eX1_energyWith_59, eX1_energyWith_60, eX1_energyWith_61, eX1_energyWith_62, eX1_energyWith_65, eX1_energyWith_68, eX1_energyWith_69, Nat.add_zero, Nat.reduceAdd, Nat.reduceLeDiff, Nat.zero_le, and_true, o_aload_0r, o_callV_0, o_const_e, o_getf_e, o_goto_e, o_iald_e, o_iald_f, o_icmp_e, o_if_e, o_ii_e, o_iinc_6, o_iload_1, o_iload_2, o_iload_3, o_iload_4, o_iload_5, o_iload_6, o_iload_7, o_iret_e, o_ist_3, o_ist_4, o_ist_5, o_ist_6, o_ist_7, tl_n, tl_s, true_and, xnlv_i, xnlv_n, xnlv_r, xwt_0, xwt_f, xwt_i, xwt_l, xwt_r, nI_add]
  exact l_energyWith h ok hk hp hc hv k x.nd 0 (by omega) none
/-- Lattice.energyOf(c) -/
theorem c_energyOf (h : LatAt AH b x lk pr) (ok : x.ok) (hk : LkOK x lk) (hp : PrOK x pr) {c : Nat} (hc : c < x.n) {Q : Option Value → xH → Prop} (k : Q (some (.int (nI (x.en c)))) AH) : XC MX1_energyOf [.ref b, .int (nI c)] AH Q := by
  have hn := sLat.n36 ok
  refine XC.ofR (L := [some (.ref b), some (.int (nI c))]) KX1_energyOf (by decide +kernel) (by first | decide | exact Nat.le_of_ble_eq_true rfl) rfl ?_
  simp only [eX1_energyOf_0, eX1_energyOf_1, eX1_energyOf_2, eX1_energyOf_3, eX1_energyOf_6, eX1_energyOf_7, eX1_energyOf_8, eX1_energyOf_11, Nat.add_zero, Nat.reduceAdd, Nat.reduceLeDiff, Nat.zero_le, and_true, o_aload_0r, o_callV_2, o_getf_e, o_iald_e, o_iald_f, o_iload_1, o_iret_e, tl_n, tl_s, true_and, xwt_0, xwt_f, xwt_i, xwt_l, xwt_r, h.cls, h.g0, h.g1, h.g2, h.g3, h.g4, h.g5, h.g6, h.g7, h.g8, h.g9, h.g10, h.g11, h.rm (c := c) (by omega)]
  refine c_energyWith h ok hk hp hc (ok.1 c) ?_
  simp only [eX1_energyOf_0, eX1_energyOf_1, eX1_energyOf_2, eX1_energyOf_3, eX1_energyOf_6, eX1_energyOf_7, eX1_energyOf_8, eX1_energyOf_11, Nat.add_zero, Nat.reduceAdd, Nat.reduceLeDiff, Nat.zero_le, and_true, o_aload_0r, o_callV_2, o_getf_e, o_iald_e, o_iald_f, o_iload_1, o_iret_e, tl_n, tl_s, true_and, xwt_0, xwt_f, xwt_i, xwt_l, xwt_r]
  exact k
/-- Lattice.border() -/
theorem l_border (h : LatAt AH b x lk pr) (ok : x.ok) (hk : LkOK x lk) (hp : PrOK x pr) {Q : xQ} (k : Q (some (.int (nI x.B))) AH (0, 0)) : ∀ (m j : Nat), j + m = x.n →
    XR TX1_border 4 [some (.ref b), some (.int (nI (sm x.en j))), some (.int (nI j))] [] AH (0, 0) Q := by
  have hn := sLat.n36 ok
  intro m
  induction m with
  | zero =>
    intro j hj
    rw [eX1_border_4]
    simp only [eX1_border_0, eX1_border_1, eX1_border_2, eX1_border_3, eX1_border_5, eX1_border_6, eX1_border_9, eX1_border_12, eX1_border_13, eX1_border_14, eX1_border_15, eX1_border_18, eX1_border_19, eX1_border_20, eX1_border_23, eX1_border_26, eX1_border_27, eX1_border_28, eX1_border_29, Nat.add_zero, Nat.reduceAdd, Nat.reduceLeDiff, Nat.zero_le, and_true, o_aload_0r, o_callV_0, o_callV_1, o_const_e, o_goto_e, o_icmp_e, o_idiv_e, o_ii_e, o_iinc_2, o_iload_1, o_iload_2, o_iret_e, o_ist_1, o_ist_2, tl_n, tl_s, true_and, xnlv_i, xnlv_n, xnlv_r, xwt_0, xwt_f, xwt_i, xwt_l, xwt_r, h.cls, h.g0, h.g1, h.g2, h.g3, h.g4, h.g5, h.g6, h.g7, h.g8, h.g9, h.g10, h.g11]
    refine c_cells h ?_
    simp only [eX1_border_0, eX1_border_1, eX1_border_2, eX1_border_3, eX1_border_5, eX1_border_6, eX1_border_9, eX1_border_12, eX1_border_13, eX1_border_14, eX1_border_15, eX1_border_18, eX1_border_19, eX1_border_20, eX1_border_23, eX1_border_26, eX1_border_27, eX1_border_28, eX1_border_29, Nat.add_zero, Nat.reduceAdd, Nat.reduceLeDiff, Nat.zero_le, and_true, o_aload_0r, o_callV_0, o_callV_1, o_const_e, o_goto_e, o_icmp_e, o_idiv_e, o_ii_e, o_iinc_2, o_iload_1, o_iload_2, o_iret_e, o_ist_1, o_ist_2, tl_n, tl_s, true_and, xnlv_i, xnlv_n, xnlv_r, xwt_0, xwt_f, xwt_i, xwt_l, xwt_r, h.cls, h.g0, h.g1, h.g2, h.g3, h.g4, h.g5, h.g6, h.g7, h.g8, h.g9, h.g10, h.g11, le_nI (a := x.n) (b := j) (by omega) (by omega)]
    refine ⟨fun _ => ?_, fun g => by omega⟩
    rw [show j = x.n by omega]
    have hs : sm x.en x.n ≤ x.n * 72 := sm_le (fun i => sLat.E_le ok) _
    have : x.n * 72 ≤ 36 * 72 := Nat.mul_le_mul_right 72 hn
    rw [n2, pk_div (by omega) (by decide) (by decide)]
    exact ⟨by decide, k⟩
  | succ m ih =>
    intro j hj
    rw [eX1_border_4]
    simp only [eX1_border_0, eX1_border_1, eX1_border_2, eX1_border_3, eX1_border_5, eX1_border_6, eX1_border_9, eX1_border_12, eX1_border_13, eX1_border_14, eX1_border_15, eX1_border_18, eX1_border_19, eX1_border_20, eX1_border_23, eX1_border_26, eX1_border_27, eX1_border_28, eX1_border_29, Nat.add_zero, Nat.reduceAdd, Nat.reduceLeDiff, Nat.zero_le, and_true, o_aload_0r, o_callV_0, o_callV_1, o_const_e, o_goto_e, o_icmp_e, o_idiv_e, o_ii_e, o_iinc_2, o_iload_1, o_iload_2, o_iret_e, o_ist_1, o_ist_2, tl_n, tl_s, true_and, xnlv_i, xnlv_n, xnlv_r, xwt_0, xwt_f, xwt_i, xwt_l, xwt_r, h.cls, h.g0, h.g1, h.g2, h.g3, h.g4, h.g5, h.g6, h.g7, h.g8, h.g9, h.g10, h.g11]
    refine c_cells h ?_
    simp only [eX1_border_0, eX1_border_1, eX1_border_2, eX1_border_3, eX1_border_5, eX1_border_6, eX1_border_9, eX1_border_12, eX1_border_13, eX1_border_14, eX1_border_15, eX1_border_18, eX1_border_19, eX1_border_20, eX1_border_23, eX1_border_26, eX1_border_27, eX1_border_28, eX1_border_29, Nat.add_zero, Nat.reduceAdd, Nat.reduceLeDiff, Nat.zero_le, and_true, o_aload_0r, o_callV_0, o_callV_1, o_const_e, o_goto_e, o_icmp_e, o_idiv_e, o_ii_e, o_iinc_2, o_iload_1, o_iload_2, o_iret_e, o_ist_1, o_ist_2, tl_n, tl_s, true_and, xnlv_i, xnlv_n, xnlv_r, xwt_0, xwt_f, xwt_i, xwt_l, xwt_r, h.cls, h.g0, h.g1, h.g2, h.g3, h.g4, h.g5, h.g6, h.g7, h.g8, h.g9, h.g10, h.g11, le_nI (a := x.n) (b := j) (by omega) (by omega)]
    refine ⟨fun g => by omega, fun _ => c_energyOf h ok hk hp (by omega) ?_⟩
    simp only [eX1_border_0, eX1_border_1, eX1_border_2, eX1_border_3, eX1_border_5, eX1_border_6, eX1_border_9, eX1_border_12, eX1_border_13, eX1_border_14, eX1_border_15, eX1_border_18, eX1_border_19, eX1_border_20, eX1_border_23, eX1_border_26, eX1_border_27, eX1_border_28, eX1_border_29, Nat.add_zero, Nat.reduceAdd, Nat.reduceLeDiff, Nat.zero_le, and_true, o_aload_0r, o_callV_0, o_callV_1, o_const_e, o_goto_e, o_icmp_e, o_idiv_e, o_ii_e, o_iinc_2, o_iload_1, o_iload_2, o_iret_e, o_ist_1, o_ist_2, tl_n, tl_s, true_and, xnlv_i, xnlv_n, xnlv_r, xwt_0, xwt_f, xwt_i, xwt_l, xwt_r, nI_add, n1]
    exact ih (j + 1) (by omega)
theorem c_border (h : LatAt AH b x lk pr) (ok : x.ok) (hk : LkOK x lk) (hp : PrOK x pr) {Q : Option Value → xH → Prop} (k : Q (some (.int (nI x.B))) AH) : XC MX1_border [.ref b] AH Q := by
  refine XC.ofR (L := [some (.ref b), none, none]) KX1_border (by decide +kernel) (by first | decide | exact Nat.le_of_ble_eq_true rfl) rfl ?_
  simp only [eX1_border_0, eX1_border_1, eX1_border_2, eX1_border_3, eX1_border_5, eX1_border_6, eX1_border_9, eX1_border_12, eX1_border_13, eX1_border_14, eX1_border_15, eX1_border_18, eX1_border_19, eX1_border_20, eX1_border_23, eX1_border_26, eX1_border_27, eX1_border_28, eX1_border_29, Nat.add_zero, Nat.reduceAdd, Nat.reduceLeDiff, Nat.zero_le, and_true, o_aload_0r, o_callV_0, o_callV_1, o_const_e, o_goto_e, o_icmp_e, o_idiv_e, o_ii_e, o_iinc_2, o_iload_1, o_iload_2, o_iret_e, o_ist_1, o_ist_2, tl_n, tl_s, true_and, xnlv_i, xnlv_n, xnlv_r, xwt_0, xwt_f, xwt_i, xwt_l, xwt_r]
  exact l_border h ok hk hp k x.n 0 (by omega)
end LAT
