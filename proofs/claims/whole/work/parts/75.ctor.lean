/-! the constructors of worlds and of the whole -/
def Fw (A B : xH) (lo hi : Nat) : Prop := ∀ j, lo ≤ j → j < hi → B[j]? = A[j]?
section FW
variable {A B : xH} {lo hi b : Nat}
theorem BlkAt.fw {cs : List xE} (h : BlkAt A b cs) (f : Fw A B lo hi) (g1 : lo ≤ b) (g2 : b + cs.length ≤ hi) : BlkAt B b cs := fun i e hi => by
  have := (List.getElem?_eq_some_iff.mp hi).1
  rw [f _ (by omega) (by omega)]
  exact h i e hi
theorem LatG.fw {x : sLat} (h : LatG A b x) (f : Fw A B lo hi) (g1 : lo ≤ b) (g2 : b + 5 ≤ hi) : LatG B b x := by
  obtain ⟨lk, pr, h1, h2⟩ := h
  exact ⟨lk, pr, ⟨by rw [f _ (by omega) (by omega)]; exact h1.1, by rw [f _ (by omega) (by omega)]; exact h1.2.1, by rw [f _ (by omega) (by omega)]; exact h1.2.2.1, by rw [f _ (by omega) (by omega)]; exact h1.2.2.2.1, by rw [f _ (by omega) (by omega)]; exact h1.2.2.2.2⟩, h2⟩
theorem RowG.fw {cap : Nat} {p : sPr} (h : RowG A b cap p) (f : Fw A B lo hi) (g1 : lo ≤ b) (g2 : b + 3 ≤ hi) : RowG B b cap p := by
  obtain ⟨s, g, h1, h2⟩ := h
  exact ⟨s, g, BlkAt.fw h1 f g1 g2, h2⟩
theorem GraG.fw (h : GraG A b) (f : Fw A B lo hi) (g1 : lo ≤ b) (g2 : b + 6 ≤ hi) : GraG B b := by
  obtain ⟨s, h1⟩ := h
  exact ⟨s, BlkAt.fw h1 f g1 g2⟩
theorem TxtG.fw {t : Nat → Nat} {n : Nat} (h : TxtG A b t n) (f : Fw A B lo hi) (g1 : lo ≤ b) (g2 : b + 2 ≤ hi) : TxtG B b t n := by
  obtain ⟨s, h1, h2⟩ := h
  exact ⟨s, BlkAt.fw h1 f g1 g2, h2⟩
theorem TapG.fw {so : Int32} {z : Nat} {t : Nat → Int64} (h : TapG A b so z t) (f : Fw A B lo hi) (g1 : lo ≤ b) (g2 : b + 2 ≤ hi) : TapG B b so z t := by
  obtain ⟨s, h1, h2⟩ := h
  exact ⟨s, BlkAt.fw h1 f g1 g2, h2⟩
theorem WorAt.fw {x : sLat} {p : sRw} (h : WorAt A b x p) (f : Fw A B lo hi) (g1 : lo ≤ b) (g2 : b + 15 ≤ hi) : WorAt B b x p :=
  ⟨by rw [f _ (by omega) (by omega)]; exact h.1, h.2.1.fw f (by omega) (by omega), h.2.2.1.fw f (by omega) (by omega), h.2.2.2.1.fw f (by omega) (by omega), h.2.2.2.2.fw f (by omega) (by omega)⟩
end FW
def Cu (AH A : xH) (b n ci : Nat) (fs : List Value) : Prop := A.length = b + n ∧ A[b]? = some (.inr (ci, fs)) ∧ ∀ j, j < b → A[j]? = AH[j]?
section CU
variable {AH A A' : xH} {b n m ci kx : Nat} {fs : List Value} {e : xE} {v : Value}
theorem ap_len (h : A.length = n) : (A ++ [e]).length = n + 1 := by
  rw [List.length_append, h]
  rfl
theorem ap_get (h : A.length = n) : (A ++ [e])[n]? = some e := by
  rw [List.getElem?_append_right (by omega), h, Nat.sub_self]
  rfl
theorem cu_step (h : Cu AH A b n ci fs) (hn : 1 ≤ n) (g : Gr (A ++ [e]) A' (b + n) m) (hk : kx < fs.length) {K : xH → Prop} (k : ∀ B, Cu AH B b (n + m) ci (fs.set kx v) → Fw A B (b + 1) (b + n) → Fw A' B (b + 1) (b + n + m) → K B) : xpf A' b ci kx v K := by
  have e1 : ∀ j, j < b + n → A'[j]? = A[j]? := fun j hj => by
    rw [g.2 j hj, List.getElem?_append_left (by rw [h.1]; exact hj)]
  have h0 : A'[b]? = some (.inr (ci, fs)) := by rw [e1 b (by omega)]; exact h.2.1
  rw [xpf_of h0 hk]
  have hl : b < A'.length := by rw [g.1]; omega
  refine k _ ⟨by rw [List.length_set, g.1]; omega, by rw [List.getElem?_set, if_pos rfl, if_pos hl], fun j hj => ?_⟩ (fun j h1 h2 => ?_) (fun j h1 h2 => ?_)
  · rw [List.getElem?_set, if_neg (by omega), e1 j (by omega)]
    exact h.2.2 j hj
  · rw [List.getElem?_set, if_neg (by omega)]
    exact e1 j h2
  · rw [List.getElem?_set, if_neg (by omega)]
end CU
def p0 : sRw := ((fun _ => (0, 0), 0), (fun _ => (0, 0), 0), (fun _ => (0, 0), 0))
theorem p0_ok : p0.ok := ⟨⟨Nat.zero_le _, fun i hi => absurd hi (Nat.not_lt_zero i)⟩, ⟨Nat.zero_le _, fun i hi => absurd hi (Nat.not_lt_zero i)⟩, ⟨Nat.zero_le _, fun i hi => absurd hi (Nat.not_lt_zero i)⟩⟩
theorem rc1 : MX1_init.2.2.2.2.cells = 4 := rfl
theorem rs1 : MX1_init.2.2.2.2.slots = 424 := rfl
theorem rc2 : MX2_init.2.2.2.2.cells = 2 := rfl
theorem rs2 : MX2_init.2.2.2.2.slots = 16 := rfl
theorem rc0 : MX0_init.2.2.2.2.cells = 5 := rfl
theorem rs0 : MX0_init.2.2.2.2.slots = 180 := rfl
theorem rc3 : MX3_init.2.2.2.2.cells = 1 := rfl
theorem rs3 : MX3_init.2.2.2.2.slots = 100 := rfl
theorem rc4 : MX4_init.2.2.2.2.cells = 1 := rfl
theorem rs4 : MX4_init.2.2.2.2.slots = 60 := rfl
theorem rc5 : MX5_init.2.2.2.2.cells = 14 := rfl
theorem rs5 : MX5_init.2.2.2.2.slots = 493 := rfl
section CTOR
variable {AH : xH} {b o : Nat}
theorem n_wor (hl : AH.length = b + 1) (hb : AH[b]? = some (.inr (5, [.null, .null, .null, .null]))) {Q : Option Value → xH → Prop} (k : ∀ A, Gr AH A b 15 → WorAt A b x0 p0 → Q none A) : XC MX5_init [.ref b] AH Q := by
  have c0 : Cu AH AH b 1 5 [.null, .null, .null, .null] := ⟨hl, hb, fun _ _ => rfl⟩
  refine XC.ofR (L := [some (.ref b)]) KX5_init (by decide +kernel) (by first | decide | exact Nat.le_of_ble_eq_true rfl) rfl ?_
  simp only [eX5_init_0, eX5_init_1, eX5_init_4, eX5_init_5, eX5_init_8, eX5_init_9, eX5_init_12, eX5_init_15, eX5_init_16, eX5_init_19, eX5_init_20, eX5_init_22, eX5_init_25, eX5_init_28, eX5_init_29, eX5_init_32, eX5_init_33, eX5_init_35, eX5_init_38, eX5_init_41, eX5_init_42, eX5_init_45, eX5_init_46, eX5_init_48, eX5_init_51, eX5_init_54, Nat.add_zero, Nat.reduceAdd, Nat.reduceLeDiff, Nat.zero_le, and_true, o_aload_0r, o_callI_0, o_callI_1, o_const_e, o_dup_e, o_new_e, o_objinit_e, o_putf_e, o_vret_e, tl_n, tl_s, true_and, xc1_i, xc1_r, xfit_a, xfit_i, xfit_l, xfit_o, xwt_0, xwt_f, xwt_i, xwt_l, xwt_r, hl, rc1, rs1, List.append_assoc, List.cons_append, List.nil_append, List.length_append, List.length_cons, List.length_nil, Nat.zero_add, Nat.reduceAdd, Nat.reduceLT, Nat.reduceLeDiff, Nat.reducePow, nI_clamp, nlt0, lt0_nI, not_false_eq_true, true_and, xpf_hd, xcls_hd, List.set_cons_succ, List.set_cons_zero, List.set_nil]
  refine n_lat (ap_len hl) (ap_get hl) (fun A' g1 G1 => ?_)
  simp only [eX5_init_0, eX5_init_1, eX5_init_4, eX5_init_5, eX5_init_8, eX5_init_9, eX5_init_12, eX5_init_15, eX5_init_16, eX5_init_19, eX5_init_20, eX5_init_22, eX5_init_25, eX5_init_28, eX5_init_29, eX5_init_32, eX5_init_33, eX5_init_35, eX5_init_38, eX5_init_41, eX5_init_42, eX5_init_45, eX5_init_46, eX5_init_48, eX5_init_51, eX5_init_54, Nat.add_zero, Nat.reduceAdd, Nat.reduceLeDiff, Nat.zero_le, and_true, o_aload_0r, o_callI_0, o_callI_1, o_const_e, o_dup_e, o_new_e, o_objinit_e, o_putf_e, o_vret_e, tl_n, tl_s, true_and, xc1_i, xc1_r, xfit_a, xfit_i, xfit_l, xfit_o, xwt_0, xwt_f, xwt_i, xwt_l, xwt_r, rc1, rs1, List.append_assoc, List.cons_append, List.nil_append, List.length_append, List.length_cons, List.length_nil, Nat.zero_add, Nat.reduceAdd, Nat.reduceLT, Nat.reduceLeDiff, Nat.reducePow, nI_clamp, nlt0, lt0_nI, not_false_eq_true, true_and, xpf_hd, xcls_hd, List.set_cons_succ, List.set_cons_zero, List.set_nil]
  refine cu_step c0 (by decide) g1 (Nat.le_of_ble_eq_true rfl) (fun A1 c1 f1 f1' => ?_)
  have L1 := G1.fw f1' (by omega) (by omega)
  clear G1 g1 f1'
  simp only [eX5_init_0, eX5_init_1, eX5_init_4, eX5_init_5, eX5_init_8, eX5_init_9, eX5_init_12, eX5_init_15, eX5_init_16, eX5_init_19, eX5_init_20, eX5_init_22, eX5_init_25, eX5_init_28, eX5_init_29, eX5_init_32, eX5_init_33, eX5_init_35, eX5_init_38, eX5_init_41, eX5_init_42, eX5_init_45, eX5_init_46, eX5_init_48, eX5_init_51, eX5_init_54, Nat.add_zero, Nat.reduceAdd, Nat.reduceLeDiff, Nat.zero_le, and_true, o_aload_0r, o_callI_0, o_callI_1, o_const_e, o_dup_e, o_new_e, o_objinit_e, o_putf_e, o_vret_e, tl_n, tl_s, true_and, xc1_i, xc1_r, xfit_a, xfit_i, xfit_l, xfit_o, xwt_0, xwt_f, xwt_i, xwt_l, xwt_r, c1.1, rc2, rs2, n6, List.append_assoc, List.cons_append, List.nil_append, List.length_append, List.length_cons, List.length_nil, Nat.zero_add, Nat.reduceAdd, Nat.reduceLT, Nat.reduceLeDiff, Nat.reducePow, nI_clamp, nlt0, lt0_nI, not_false_eq_true, true_and, xpf_hd, xcls_hd, List.set_cons_succ, List.set_cons_zero, List.set_nil]
  refine n_row (f0 := fun _ => (0, 0)) (Or.inl rfl) (ap_len c1.1) (ap_get c1.1) (fun A' g2 G2 => ?_)
  simp only [eX5_init_0, eX5_init_1, eX5_init_4, eX5_init_5, eX5_init_8, eX5_init_9, eX5_init_12, eX5_init_15, eX5_init_16, eX5_init_19, eX5_init_20, eX5_init_22, eX5_init_25, eX5_init_28, eX5_init_29, eX5_init_32, eX5_init_33, eX5_init_35, eX5_init_38, eX5_init_41, eX5_init_42, eX5_init_45, eX5_init_46, eX5_init_48, eX5_init_51, eX5_init_54, Nat.add_zero, Nat.reduceAdd, Nat.reduceLeDiff, Nat.zero_le, and_true, o_aload_0r, o_callI_0, o_callI_1, o_const_e, o_dup_e, o_new_e, o_objinit_e, o_putf_e, o_vret_e, tl_n, tl_s, true_and, xc1_i, xc1_r, xfit_a, xfit_i, xfit_l, xfit_o, xwt_0, xwt_f, xwt_i, xwt_l, xwt_r, rc2, rs2, List.append_assoc, List.cons_append, List.nil_append, List.length_append, List.length_cons, List.length_nil, Nat.zero_add, Nat.reduceAdd, Nat.reduceLT, Nat.reduceLeDiff, Nat.reducePow, nI_clamp, nlt0, lt0_nI, not_false_eq_true, true_and, xpf_hd, xcls_hd, List.set_cons_succ, List.set_cons_zero, List.set_nil]
  refine cu_step c1 (by decide) g2 (Nat.le_of_ble_eq_true rfl) (fun A2 c2 f2 f2' => ?_)
  have L2 := L1.fw f2 (by omega) (by omega)
  have R2 := G2.fw f2' (by omega) (by omega)
  clear G2 g2 f2' L1 f2
  simp only [eX5_init_0, eX5_init_1, eX5_init_4, eX5_init_5, eX5_init_8, eX5_init_9, eX5_init_12, eX5_init_15, eX5_init_16, eX5_init_19, eX5_init_20, eX5_init_22, eX5_init_25, eX5_init_28, eX5_init_29, eX5_init_32, eX5_init_33, eX5_init_35, eX5_init_38, eX5_init_41, eX5_init_42, eX5_init_45, eX5_init_46, eX5_init_48, eX5_init_51, eX5_init_54, Nat.add_zero, Nat.reduceAdd, Nat.reduceLeDiff, Nat.zero_le, and_true, o_aload_0r, o_callI_0, o_callI_1, o_const_e, o_dup_e, o_new_e, o_objinit_e, o_putf_e, o_vret_e, tl_n, tl_s, true_and, xc1_i, xc1_r, xfit_a, xfit_i, xfit_l, xfit_o, xwt_0, xwt_f, xwt_i, xwt_l, xwt_r, c2.1, rc2, rs2, n8, List.append_assoc, List.cons_append, List.nil_append, List.length_append, List.length_cons, List.length_nil, Nat.zero_add, Nat.reduceAdd, Nat.reduceLT, Nat.reduceLeDiff, Nat.reducePow, nI_clamp, nlt0, lt0_nI, not_false_eq_true, true_and, xpf_hd, xcls_hd, List.set_cons_succ, List.set_cons_zero, List.set_nil]
  refine n_row (f0 := fun _ => (0, 0)) (Or.inr rfl) (ap_len c2.1) (ap_get c2.1) (fun A' g3 G3 => ?_)
  simp only [eX5_init_0, eX5_init_1, eX5_init_4, eX5_init_5, eX5_init_8, eX5_init_9, eX5_init_12, eX5_init_15, eX5_init_16, eX5_init_19, eX5_init_20, eX5_init_22, eX5_init_25, eX5_init_28, eX5_init_29, eX5_init_32, eX5_init_33, eX5_init_35, eX5_init_38, eX5_init_41, eX5_init_42, eX5_init_45, eX5_init_46, eX5_init_48, eX5_init_51, eX5_init_54, Nat.add_zero, Nat.reduceAdd, Nat.reduceLeDiff, Nat.zero_le, and_true, o_aload_0r, o_callI_0, o_callI_1, o_const_e, o_dup_e, o_new_e, o_objinit_e, o_putf_e, o_vret_e, tl_n, tl_s, true_and, xc1_i, xc1_r, xfit_a, xfit_i, xfit_l, xfit_o, xwt_0, xwt_f, xwt_i, xwt_l, xwt_r, rc2, rs2, List.append_assoc, List.cons_append, List.nil_append, List.length_append, List.length_cons, List.length_nil, Nat.zero_add, Nat.reduceAdd, Nat.reduceLT, Nat.reduceLeDiff, Nat.reducePow, nI_clamp, nlt0, lt0_nI, not_false_eq_true, true_and, xpf_hd, xcls_hd, List.set_cons_succ, List.set_cons_zero, List.set_nil]
  refine cu_step c2 (by decide) g3 (Nat.le_of_ble_eq_true rfl) (fun A3 c3 f3 f3' => ?_)
  have L3 := L2.fw f3 (by omega) (by omega)
  have R3 := R2.fw f3 (by omega) (by omega)
  have E3 := G3.fw f3' (by omega) (by omega)
  clear G3 g3 f3' L2 R2 f3
  simp only [eX5_init_0, eX5_init_1, eX5_init_4, eX5_init_5, eX5_init_8, eX5_init_9, eX5_init_12, eX5_init_15, eX5_init_16, eX5_init_19, eX5_init_20, eX5_init_22, eX5_init_25, eX5_init_28, eX5_init_29, eX5_init_32, eX5_init_33, eX5_init_35, eX5_init_38, eX5_init_41, eX5_init_42, eX5_init_45, eX5_init_46, eX5_init_48, eX5_init_51, eX5_init_54, Nat.add_zero, Nat.reduceAdd, Nat.reduceLeDiff, Nat.zero_le, and_true, o_aload_0r, o_callI_0, o_callI_1, o_const_e, o_dup_e, o_new_e, o_objinit_e, o_putf_e, o_vret_e, tl_n, tl_s, true_and, xc1_i, xc1_r, xfit_a, xfit_i, xfit_l, xfit_o, xwt_0, xwt_f, xwt_i, xwt_l, xwt_r, c3.1, rc2, rs2, n8, List.append_assoc, List.cons_append, List.nil_append, List.length_append, List.length_cons, List.length_nil, Nat.zero_add, Nat.reduceAdd, Nat.reduceLT, Nat.reduceLeDiff, Nat.reducePow, nI_clamp, nlt0, lt0_nI, not_false_eq_true, true_and, xpf_hd, xcls_hd, List.set_cons_succ, List.set_cons_zero, List.set_nil]
  refine n_row (f0 := fun _ => (0, 0)) (Or.inr rfl) (ap_len c3.1) (ap_get c3.1) (fun A' g4 G4 => ?_)
  simp only [eX5_init_0, eX5_init_1, eX5_init_4, eX5_init_5, eX5_init_8, eX5_init_9, eX5_init_12, eX5_init_15, eX5_init_16, eX5_init_19, eX5_init_20, eX5_init_22, eX5_init_25, eX5_init_28, eX5_init_29, eX5_init_32, eX5_init_33, eX5_init_35, eX5_init_38, eX5_init_41, eX5_init_42, eX5_init_45, eX5_init_46, eX5_init_48, eX5_init_51, eX5_init_54, Nat.add_zero, Nat.reduceAdd, Nat.reduceLeDiff, Nat.zero_le, and_true, o_aload_0r, o_callI_0, o_callI_1, o_const_e, o_dup_e, o_new_e, o_objinit_e, o_putf_e, o_vret_e, tl_n, tl_s, true_and, xc1_i, xc1_r, xfit_a, xfit_i, xfit_l, xfit_o, xwt_0, xwt_f, xwt_i, xwt_l, xwt_r, rc2, rs2, List.append_assoc, List.cons_append, List.nil_append, List.length_append, List.length_cons, List.length_nil, Nat.zero_add, Nat.reduceAdd, Nat.reduceLT, Nat.reduceLeDiff, Nat.reducePow, nI_clamp, nlt0, lt0_nI, not_false_eq_true, true_and, xpf_hd, xcls_hd, List.set_cons_succ, List.set_cons_zero, List.set_nil]
  refine cu_step c3 (by decide) g4 (Nat.le_of_ble_eq_true rfl) (fun A4 c4 f4 f4' => ?_)
  have L4 := L3.fw f4 (by omega) (by omega)
  have R4 := R3.fw f4 (by omega) (by omega)
  have E4 := E3.fw f4 (by omega) (by omega)
  have K4 := G4.fw f4' (by omega) (by omega)
  exact k A4 ⟨c4.1, c4.2.2⟩ ⟨c4.2.1, L4, R4, E4, K4⟩
def T0 : sTp := (fun _ => -1, fun _ => 0, fun _ _ => 0)
def S0 : sCls := (x0, p0, none, T0, fun _ => 0, 0)
theorem S0_ok : S0.ok := ⟨x0_ok, p0_ok, fun t => ⟨Nat.zero_le 60, Or.inl ⟨rfl, rfl⟩⟩, Nat.zero_le 100, fun i => (by decide : 0 < 128), fun z hz => by cases hz⟩
def tpI (o i : Nat) : Nat → Option Nat := fun j => if j < i then some (o + 45 + 2 * j) else none
theorem tpI_s {o i : Nat} : va_up (tpI o i) i (some (o + 45 + 2 * i)) = tpI o (i + 1) := by
  funext j
  unfold va_up tpI
  by_cases h : j = i
  · subst h
    rw [if_pos rfl, if_pos (by omega)]
  · rw [if_neg h]
    by_cases h2 : j < i
    · rw [if_pos h2, if_pos (by omega)]
    · rw [if_neg h2, if_neg (by omega)]
theorem xaast_of {A : xH} {a n c d : Nat} {f : Nat → Option Nat} {K : xH → Prop} (h : A[a]? = some (.inl (n, .inr (.inr (.inr (.inr f)))))) (hc : c < n) (hn : n < 2 ^ 31) : xaast A a (nI c) d K = K (A.set a (.inl (n, .inr (.inr (.inr (.inr (va_up f c (some d)))))))) := by
  unfold xaast
  rw [h]
  have := vp_in_nI hc hn
  simp only [this, true_and, nI_clamp (Nat.lt_trans hc hn)]
def gfs (o : Nat) : List Value := [.ref (o + 1), .ref (o + 16), .ref (o + 31), .ref (o + 36), .ref (o + 42), .ref (o + 44), .int 0]
def Ct (AH A : xH) (o i : Nat) : Prop := Cu AH A o (45 + 2 * i) 6 (gfs o) ∧ WorAt A (o + 1) x0 p0 ∧ WorAt A (o + 16) x0 p0 ∧ LatG A (o + 31) x0 ∧ GraG A (o + 36) ∧ TxtG A (o + 42) (fun _ => 0) 0 ∧ A[o + 44]? = some (.inl (6, .inr (.inr (.inr (.inr (tpI o i)))))) ∧ ∀ t, t < i → TapG A (o + 45 + 2 * t) (-1) 0 (fun _ => 0)
theorem l_cls {Q : xQ} (k : ∀ A, Gr AH A o 57 → CAt A o S0 → Q none A (56, 2102)) : ∀ (z i : Nat), i + z = 6 → ∀ A, Ct AH A o i →
    XR TX6_init 70 [some (.ref o), some (.int (nI i))] [] A (44 + 2 * i, 1724 + 63 * i) Q := by
  intro z
  induction z with
  | zero =>
    intro i hi A h
    obtain ⟨c, w1, w2, l1, g1, t1, a1, p1⟩ := h
    have e6 : i = 6 := by omega
    subst e6
    have g5 : ∀ {K : Value → Prop}, xgf A o 6 5 K = K (.ref (o + 44)) := fun {K} => xgf_of c.2.1 rfl
    have al : ∀ {K : Int32 → Prop}, xalen A (o + 44) K = K (nI 6) := fun {K} => xalen_of a1
    have eF : (6 ≤ 6) = True := eq_true (Nat.le_refl 6)
    rw [eX6_init_70]
    simp only [eX6_init_0, eX6_init_1, eX6_init_4, eX6_init_5, eX6_init_8, eX6_init_9, eX6_init_12, eX6_init_15, eX6_init_16, eX6_init_19, eX6_init_20, eX6_init_23, eX6_init_26, eX6_init_27, eX6_init_30, eX6_init_31, eX6_init_34, eX6_init_37, eX6_init_38, eX6_init_41, eX6_init_42, eX6_init_45, eX6_init_48, eX6_init_49, eX6_init_52, eX6_init_53, eX6_init_56, eX6_init_59, eX6_init_60, eX6_init_62, eX6_init_65, eX6_init_68, eX6_init_69, eX6_init_71, eX6_init_72, eX6_init_75, eX6_init_76, eX6_init_79, eX6_init_80, eX6_init_83, eX6_init_84, eX6_init_87, eX6_init_88, eX6_init_91, eX6_init_92, eX6_init_95, eX6_init_98, Nat.add_zero, Nat.reduceAdd, Nat.reduceLeDiff, Nat.zero_le, and_true, o_aast_e, o_alen_e, o_aload_0r, o_callI_0, o_const_e, o_dup_e, o_getf_e, o_goto_e, o_icmp_e, o_iinc_1, o_iload_1, o_ist_1, o_new_e, o_newq_e, o_objinit_e, o_putf_e, o_vret_e, tl_n, tl_s, true_and, xc1_i, xc1_r, xfit_a, xfit_i, xfit_l, xfit_o, xnlv_i, xnlv_n, xnlv_r, xwt_0, xwt_f, xwt_i, xwt_l, xwt_r, g5, al, le_nI (a := 6) (b := 6) (by omega) (by omega), eF, not_true_eq_false, not_false_eq_true, true_implies, false_implies, and_true, true_and, implies_true, forall_const, ↓reduceIte, Bool.false_eq_true, i10, i10n]
    exact k A ⟨c.1, c.2.2⟩ ⟨c.2.1, w1, ⟨x0, p0, w2, x0_ok, p0_ok, fun z hz => by cases hz⟩, ⟨x0, l1, x0_ok⟩, g1, t1, a1, p1, S0_ok⟩
  | succ z ih =>
    intro i hi A h
    obtain ⟨c, w1, w2, l1, g1, t1, a1, p1⟩ := h
    have g5 : ∀ {K : Value → Prop}, xgf A o 6 5 K = K (.ref (o + 44)) := fun {K} => xgf_of c.2.1 rfl
    have al : ∀ {K : Int32 → Prop}, xalen A (o + 44) K = K (nI 6) := fun {K} => xalen_of a1
    have eF : (6 ≤ i) = False := eq_false (by omega)
    have b1 : (44 + 2 * i + 1 ≤ 56) = True := eq_true (by omega)
    have b2 : (1724 + 63 * i + 3 ≤ 2102) = True := eq_true (by omega)
    have b3 : (44 + 2 * i + 1 + 1 ≤ 56) = True := eq_true (by omega)
    have b4 : (1724 + 63 * i + 3 + 60 ≤ 2102) = True := eq_true (by omega)
    have el : A.length = o + 45 + 2 * i := by rw [c.1]; omega
    rw [eX6_init_70]
    simp only [eX6_init_0, eX6_init_1, eX6_init_4, eX6_init_5, eX6_init_8, eX6_init_9, eX6_init_12, eX6_init_15, eX6_init_16, eX6_init_19, eX6_init_20, eX6_init_23, eX6_init_26, eX6_init_27, eX6_init_30, eX6_init_31, eX6_init_34, eX6_init_37, eX6_init_38, eX6_init_41, eX6_init_42, eX6_init_45, eX6_init_48, eX6_init_49, eX6_init_52, eX6_init_53, eX6_init_56, eX6_init_59, eX6_init_60, eX6_init_62, eX6_init_65, eX6_init_68, eX6_init_69, eX6_init_71, eX6_init_72, eX6_init_75, eX6_init_76, eX6_init_79, eX6_init_80, eX6_init_83, eX6_init_84, eX6_init_87, eX6_init_88, eX6_init_91, eX6_init_92, eX6_init_95, eX6_init_98, Nat.add_zero, Nat.reduceAdd, Nat.reduceLeDiff, Nat.zero_le, and_true, o_aast_e, o_alen_e, o_aload_0r, o_callI_0, o_const_e, o_dup_e, o_getf_e, o_goto_e, o_icmp_e, o_iinc_1, o_iload_1, o_ist_1, o_new_e, o_newq_e, o_objinit_e, o_putf_e, o_vret_e, tl_n, tl_s, true_and, xc1_i, xc1_r, xfit_a, xfit_i, xfit_l, xfit_o, xnlv_i, xnlv_n, xnlv_r, xwt_0, xwt_f, xwt_i, xwt_l, xwt_r, g5, al, le_nI (a := 6) (b := i) (by omega) (by omega), eF, not_true_eq_false, not_false_eq_true, true_implies, false_implies, and_true, true_and, implies_true, forall_const, ↓reduceIte, Bool.false_eq_true, i10, i10n, b1, b2, b3, b4, rc4, rs4, el, xwt_0, xwt_i, xwt_r, Nat.reduceLeDiff, Nat.reduceAdd]
    refine n_tap (ap_len el) (ap_get el) (fun A' g2 G2 => ?_)
    have e1 : ∀ j, j < o + 45 + 2 * i → A'[j]? = A[j]? := fun j hj => by
      rw [g2.2 j hj, List.getElem?_append_left (by rw [el]; exact hj)]
    have a2 : A'[o + 44]? = some (.inl (6, .inr (.inr (.inr (.inr (tpI o i)))))) := by rw [e1 _ (by omega)]; exact a1
    have tc : xcls A' (o + 45 + 2 * i) 4 = True := by
      obtain ⟨q, q1, _⟩ := id G2
      exact q1.cls
    simp only [eX6_init_0, eX6_init_1, eX6_init_4, eX6_init_5, eX6_init_8, eX6_init_9, eX6_init_12, eX6_init_15, eX6_init_16, eX6_init_19, eX6_init_20, eX6_init_23, eX6_init_26, eX6_init_27, eX6_init_30, eX6_init_31, eX6_init_34, eX6_init_37, eX6_init_38, eX6_init_41, eX6_init_42, eX6_init_45, eX6_init_48, eX6_init_49, eX6_init_52, eX6_init_53, eX6_init_56, eX6_init_59, eX6_init_60, eX6_init_62, eX6_init_65, eX6_init_68, eX6_init_69, eX6_init_71, eX6_init_72, eX6_init_75, eX6_init_76, eX6_init_79, eX6_init_80, eX6_init_83, eX6_init_84, eX6_init_87, eX6_init_88, eX6_init_91, eX6_init_92, eX6_init_95, eX6_init_98, Nat.add_zero, Nat.reduceAdd, Nat.reduceLeDiff, Nat.zero_le, and_true, o_aast_e, o_alen_e, o_aload_0r, o_callI_0, o_const_e, o_dup_e, o_getf_e, o_goto_e, o_icmp_e, o_iinc_1, o_iload_1, o_ist_1, o_new_e, o_newq_e, o_objinit_e, o_putf_e, o_vret_e, tl_n, tl_s, true_and, xc1_i, xc1_r, xfit_a, xfit_i, xfit_l, xfit_o, xnlv_i, xnlv_n, xnlv_r, xwt_0, xwt_f, xwt_i, xwt_l, xwt_r, tc, not_true_eq_false, not_false_eq_true, true_implies, false_implies, and_true, true_and, implies_true, forall_const, ↓reduceIte, Bool.false_eq_true, i10, i10n, xaast_of a2 (c := i) (by omega) (by decide), tpI_s, n1, nI_add, rc4, rs4]
    have hl : o + 44 < A'.length := by rw [g2.1]; omega
    have F1 : Fw A (A'.set (o + 44) (.inl (6, .inr (.inr (.inr (.inr (tpI o (i + 1)))))))) 0 (o + 44) := fun j h1 h2 => by
      rw [List.getElem?_set, if_neg (by omega)]
      exact e1 j (by omega)
    have F2 : Fw A (A'.set (o + 44) (.inl (6, .inr (.inr (.inr (.inr (tpI o (i + 1)))))))) (o + 45) (o + 45 + 2 * i) := fun j h1 h2 => by
      rw [List.getElem?_set, if_neg (by omega)]
      exact e1 j (by omega)
    have F3 : Fw A' (A'.set (o + 44) (.inl (6, .inr (.inr (.inr (.inr (tpI o (i + 1)))))))) (o + 45) (o + 47 + 2 * i) := fun j h1 h2 => by
      rw [List.getElem?_set, if_neg (by omega)]
    have := ih (i + 1) (by omega) (A'.set (o + 44) (.inl (6, .inr (.inr (.inr (.inr (tpI o (i + 1)))))))) ⟨⟨by rw [List.length_set, g2.1]; omega, by rw [F1 _ (by omega) (by omega)]; exact c.2.1, fun j hj => by rw [F1 _ (by omega) (by omega)]; exact c.2.2 j hj⟩, w1.fw F1 (by omega) (by omega), w2.fw F1 (by omega) (by omega), l1.fw F1 (by omega) (by omega), g1.fw F1 (by omega) (by omega), t1.fw F1 (by omega) (by omega), by rw [List.getElem?_set, if_pos rfl, if_pos hl], fun t ht => ?_⟩
    · rw [show 44 + 2 * (i + 1) = 44 + 2 * i + 1 + 1 by omega, show 1724 + 63 * (i + 1) = 1724 + 63 * i + 3 + 60 by omega] at this
      exact this
    · by_cases e : t = i
      · subst e
        exact G2.fw F3 (by omega) (by omega)
      · exact (p1 t (by omega)).fw F2 (by omega) (by omega)
theorem n_cls (hl : AH.length = o + 1) (hb : AH[o]? = some (.inr (6, [.null, .null, .null, .null, .null, .null, .int 0]))) {Q : Option Value → xH → Prop} (k : ∀ A, Gr AH A o 57 → CAt A o S0 → Q none A) : XC MX6_init [.ref o] AH Q := by
  have c0 : Cu AH AH o 1 6 [.null, .null, .null, .null, .null, .null, .int 0] := ⟨hl, hb, fun _ _ => rfl⟩
  refine XC.ofR (L := [some (.ref o), none]) KX6_init (by decide +kernel) (by first | decide | exact Nat.le_of_ble_eq_true rfl) rfl ?_
  simp only [eX6_init_0, eX6_init_1, eX6_init_4, eX6_init_5, eX6_init_8, eX6_init_9, eX6_init_12, eX6_init_15, eX6_init_16, eX6_init_19, eX6_init_20, eX6_init_23, eX6_init_26, eX6_init_27, eX6_init_30, eX6_init_31, eX6_init_34, eX6_init_37, eX6_init_38, eX6_init_41, eX6_init_42, eX6_init_45, eX6_init_48, eX6_init_49, eX6_init_52, eX6_init_53, eX6_init_56, eX6_init_59, eX6_init_60, eX6_init_62, eX6_init_65, eX6_init_68, eX6_init_69, eX6_init_71, eX6_init_72, eX6_init_75, eX6_init_76, eX6_init_79, eX6_init_80, eX6_init_83, eX6_init_84, eX6_init_87, eX6_init_88, eX6_init_91, eX6_init_92, eX6_init_95, eX6_init_98, Nat.add_zero, Nat.reduceAdd, Nat.reduceLeDiff, Nat.zero_le, and_true, o_aast_e, o_alen_e, o_aload_0r, o_callI_0, o_const_e, o_dup_e, o_getf_e, o_goto_e, o_icmp_e, o_iinc_1, o_iload_1, o_ist_1, o_new_e, o_newq_e, o_objinit_e, o_putf_e, o_vret_e, tl_n, tl_s, true_and, xc1_i, xc1_r, xfit_a, xfit_i, xfit_l, xfit_o, xnlv_i, xnlv_n, xnlv_r, xwt_0, xwt_f, xwt_i, xwt_l, xwt_r, hl, rc5, rs5, List.append_assoc, List.cons_append, List.nil_append, List.length_append, List.length_cons, List.length_nil, Nat.zero_add, Nat.reduceAdd, Nat.reduceLT, Nat.reduceLeDiff, Nat.reducePow, nI_clamp, nlt0, lt0_nI, not_false_eq_true, true_and, xpf_hd, xcls_hd, List.set_cons_succ, List.set_cons_zero, List.set_nil]
  refine n_wor (ap_len hl) (ap_get hl) (fun A' g1 G1 => ?_)
  simp only [eX6_init_0, eX6_init_1, eX6_init_4, eX6_init_5, eX6_init_8, eX6_init_9, eX6_init_12, eX6_init_15, eX6_init_16, eX6_init_19, eX6_init_20, eX6_init_23, eX6_init_26, eX6_init_27, eX6_init_30, eX6_init_31, eX6_init_34, eX6_init_37, eX6_init_38, eX6_init_41, eX6_init_42, eX6_init_45, eX6_init_48, eX6_init_49, eX6_init_52, eX6_init_53, eX6_init_56, eX6_init_59, eX6_init_60, eX6_init_62, eX6_init_65, eX6_init_68, eX6_init_69, eX6_init_71, eX6_init_72, eX6_init_75, eX6_init_76, eX6_init_79, eX6_init_80, eX6_init_83, eX6_init_84, eX6_init_87, eX6_init_88, eX6_init_91, eX6_init_92, eX6_init_95, eX6_init_98, Nat.add_zero, Nat.reduceAdd, Nat.reduceLeDiff, Nat.zero_le, and_true, o_aast_e, o_alen_e, o_aload_0r, o_callI_0, o_const_e, o_dup_e, o_getf_e, o_goto_e, o_icmp_e, o_iinc_1, o_iload_1, o_ist_1, o_new_e, o_newq_e, o_objinit_e, o_putf_e, o_vret_e, tl_n, tl_s, true_and, xc1_i, xc1_r, xfit_a, xfit_i, xfit_l, xfit_o, xnlv_i, xnlv_n, xnlv_r, xwt_0, xwt_f, xwt_i, xwt_l, xwt_r, rc5, rs5, List.append_assoc, List.cons_append, List.nil_append, List.length_append, List.length_cons, List.length_nil, Nat.zero_add, Nat.reduceAdd, Nat.reduceLT, Nat.reduceLeDiff, Nat.reducePow, nI_clamp, nlt0, lt0_nI, not_false_eq_true, true_and, xpf_hd, xcls_hd, List.set_cons_succ, List.set_cons_zero, List.set_nil]
  refine cu_step c0 (by decide) g1 (Nat.le_of_ble_eq_true rfl) (fun A1 c1 f1 f1' => ?_)
  have W1 := G1.fw f1' (by omega) (by omega)
  clear G1 g1 f1'
  simp only [eX6_init_0, eX6_init_1, eX6_init_4, eX6_init_5, eX6_init_8, eX6_init_9, eX6_init_12, eX6_init_15, eX6_init_16, eX6_init_19, eX6_init_20, eX6_init_23, eX6_init_26, eX6_init_27, eX6_init_30, eX6_init_31, eX6_init_34, eX6_init_37, eX6_init_38, eX6_init_41, eX6_init_42, eX6_init_45, eX6_init_48, eX6_init_49, eX6_init_52, eX6_init_53, eX6_init_56, eX6_init_59, eX6_init_60, eX6_init_62, eX6_init_65, eX6_init_68, eX6_init_69, eX6_init_71, eX6_init_72, eX6_init_75, eX6_init_76, eX6_init_79, eX6_init_80, eX6_init_83, eX6_init_84, eX6_init_87, eX6_init_88, eX6_init_91, eX6_init_92, eX6_init_95, eX6_init_98, Nat.add_zero, Nat.reduceAdd, Nat.reduceLeDiff, Nat.zero_le, and_true, o_aast_e, o_alen_e, o_aload_0r, o_callI_0, o_const_e, o_dup_e, o_getf_e, o_goto_e, o_icmp_e, o_iinc_1, o_iload_1, o_ist_1, o_new_e, o_newq_e, o_objinit_e, o_putf_e, o_vret_e, tl_n, tl_s, true_and, xc1_i, xc1_r, xfit_a, xfit_i, xfit_l, xfit_o, xnlv_i, xnlv_n, xnlv_r, xwt_0, xwt_f, xwt_i, xwt_l, xwt_r, c1.1, rc5, rs5, List.append_assoc, List.cons_append, List.nil_append, List.length_append, List.length_cons, List.length_nil, Nat.zero_add, Nat.reduceAdd, Nat.reduceLT, Nat.reduceLeDiff, Nat.reducePow, nI_clamp, nlt0, lt0_nI, not_false_eq_true, true_and, xpf_hd, xcls_hd, List.set_cons_succ, List.set_cons_zero, List.set_nil]
  refine n_wor (ap_len c1.1) (ap_get c1.1) (fun A' g2 G2 => ?_)
  simp only [eX6_init_0, eX6_init_1, eX6_init_4, eX6_init_5, eX6_init_8, eX6_init_9, eX6_init_12, eX6_init_15, eX6_init_16, eX6_init_19, eX6_init_20, eX6_init_23, eX6_init_26, eX6_init_27, eX6_init_30, eX6_init_31, eX6_init_34, eX6_init_37, eX6_init_38, eX6_init_41, eX6_init_42, eX6_init_45, eX6_init_48, eX6_init_49, eX6_init_52, eX6_init_53, eX6_init_56, eX6_init_59, eX6_init_60, eX6_init_62, eX6_init_65, eX6_init_68, eX6_init_69, eX6_init_71, eX6_init_72, eX6_init_75, eX6_init_76, eX6_init_79, eX6_init_80, eX6_init_83, eX6_init_84, eX6_init_87, eX6_init_88, eX6_init_91, eX6_init_92, eX6_init_95, eX6_init_98, Nat.add_zero, Nat.reduceAdd, Nat.reduceLeDiff, Nat.zero_le, and_true, o_aast_e, o_alen_e, o_aload_0r, o_callI_0, o_const_e, o_dup_e, o_getf_e, o_goto_e, o_icmp_e, o_iinc_1, o_iload_1, o_ist_1, o_new_e, o_newq_e, o_objinit_e, o_putf_e, o_vret_e, tl_n, tl_s, true_and, xc1_i, xc1_r, xfit_a, xfit_i, xfit_l, xfit_o, xnlv_i, xnlv_n, xnlv_r, xwt_0, xwt_f, xwt_i, xwt_l, xwt_r, rc5, rs5, List.append_assoc, List.cons_append, List.nil_append, List.length_append, List.length_cons, List.length_nil, Nat.zero_add, Nat.reduceAdd, Nat.reduceLT, Nat.reduceLeDiff, Nat.reducePow, nI_clamp, nlt0, lt0_nI, not_false_eq_true, true_and, xpf_hd, xcls_hd, List.set_cons_succ, List.set_cons_zero, List.set_nil]
  refine cu_step c1 (by decide) g2 (Nat.le_of_ble_eq_true rfl) (fun A2 c2 f2 f2' => ?_)
  have W2 := W1.fw f2 (by omega) (by omega)
  have K2 := G2.fw f2' (by omega) (by omega)
  clear G2 g2 f2' W1 f2
  simp only [eX6_init_0, eX6_init_1, eX6_init_4, eX6_init_5, eX6_init_8, eX6_init_9, eX6_init_12, eX6_init_15, eX6_init_16, eX6_init_19, eX6_init_20, eX6_init_23, eX6_init_26, eX6_init_27, eX6_init_30, eX6_init_31, eX6_init_34, eX6_init_37, eX6_init_38, eX6_init_41, eX6_init_42, eX6_init_45, eX6_init_48, eX6_init_49, eX6_init_52, eX6_init_53, eX6_init_56, eX6_init_59, eX6_init_60, eX6_init_62, eX6_init_65, eX6_init_68, eX6_init_69, eX6_init_71, eX6_init_72, eX6_init_75, eX6_init_76, eX6_init_79, eX6_init_80, eX6_init_83, eX6_init_84, eX6_init_87, eX6_init_88, eX6_init_91, eX6_init_92, eX6_init_95, eX6_init_98, Nat.add_zero, Nat.reduceAdd, Nat.reduceLeDiff, Nat.zero_le, and_true, o_aast_e, o_alen_e, o_aload_0r, o_callI_0, o_const_e, o_dup_e, o_getf_e, o_goto_e, o_icmp_e, o_iinc_1, o_iload_1, o_ist_1, o_new_e, o_newq_e, o_objinit_e, o_putf_e, o_vret_e, tl_n, tl_s, true_and, xc1_i, xc1_r, xfit_a, xfit_i, xfit_l, xfit_o, xnlv_i, xnlv_n, xnlv_r, xwt_0, xwt_f, xwt_i, xwt_l, xwt_r, c2.1, rc1, rs1, List.append_assoc, List.cons_append, List.nil_append, List.length_append, List.length_cons, List.length_nil, Nat.zero_add, Nat.reduceAdd, Nat.reduceLT, Nat.reduceLeDiff, Nat.reducePow, nI_clamp, nlt0, lt0_nI, not_false_eq_true, true_and, xpf_hd, xcls_hd, List.set_cons_succ, List.set_cons_zero, List.set_nil]
  refine n_lat (ap_len c2.1) (ap_get c2.1) (fun A' g3 G3 => ?_)
  simp only [eX6_init_0, eX6_init_1, eX6_init_4, eX6_init_5, eX6_init_8, eX6_init_9, eX6_init_12, eX6_init_15, eX6_init_16, eX6_init_19, eX6_init_20, eX6_init_23, eX6_init_26, eX6_init_27, eX6_init_30, eX6_init_31, eX6_init_34, eX6_init_37, eX6_init_38, eX6_init_41, eX6_init_42, eX6_init_45, eX6_init_48, eX6_init_49, eX6_init_52, eX6_init_53, eX6_init_56, eX6_init_59, eX6_init_60, eX6_init_62, eX6_init_65, eX6_init_68, eX6_init_69, eX6_init_71, eX6_init_72, eX6_init_75, eX6_init_76, eX6_init_79, eX6_init_80, eX6_init_83, eX6_init_84, eX6_init_87, eX6_init_88, eX6_init_91, eX6_init_92, eX6_init_95, eX6_init_98, Nat.add_zero, Nat.reduceAdd, Nat.reduceLeDiff, Nat.zero_le, and_true, o_aast_e, o_alen_e, o_aload_0r, o_callI_0, o_const_e, o_dup_e, o_getf_e, o_goto_e, o_icmp_e, o_iinc_1, o_iload_1, o_ist_1, o_new_e, o_newq_e, o_objinit_e, o_putf_e, o_vret_e, tl_n, tl_s, true_and, xc1_i, xc1_r, xfit_a, xfit_i, xfit_l, xfit_o, xnlv_i, xnlv_n, xnlv_r, xwt_0, xwt_f, xwt_i, xwt_l, xwt_r, rc1, rs1, List.append_assoc, List.cons_append, List.nil_append, List.length_append, List.length_cons, List.length_nil, Nat.zero_add, Nat.reduceAdd, Nat.reduceLT, Nat.reduceLeDiff, Nat.reducePow, nI_clamp, nlt0, lt0_nI, not_false_eq_true, true_and, xpf_hd, xcls_hd, List.set_cons_succ, List.set_cons_zero, List.set_nil]
  refine cu_step c2 (by decide) g3 (Nat.le_of_ble_eq_true rfl) (fun A3 c3 f3 f3' => ?_)
  have W3 := W2.fw f3 (by omega) (by omega)
  have K3 := K2.fw f3 (by omega) (by omega)
  have L3 := G3.fw f3' (by omega) (by omega)
  clear G3 g3 f3' W2 K2 f3
  simp only [eX6_init_0, eX6_init_1, eX6_init_4, eX6_init_5, eX6_init_8, eX6_init_9, eX6_init_12, eX6_init_15, eX6_init_16, eX6_init_19, eX6_init_20, eX6_init_23, eX6_init_26, eX6_init_27, eX6_init_30, eX6_init_31, eX6_init_34, eX6_init_37, eX6_init_38, eX6_init_41, eX6_init_42, eX6_init_45, eX6_init_48, eX6_init_49, eX6_init_52, eX6_init_53, eX6_init_56, eX6_init_59, eX6_init_60, eX6_init_62, eX6_init_65, eX6_init_68, eX6_init_69, eX6_init_71, eX6_init_72, eX6_init_75, eX6_init_76, eX6_init_79, eX6_init_80, eX6_init_83, eX6_init_84, eX6_init_87, eX6_init_88, eX6_init_91, eX6_init_92, eX6_init_95, eX6_init_98, Nat.add_zero, Nat.reduceAdd, Nat.reduceLeDiff, Nat.zero_le, and_true, o_aast_e, o_alen_e, o_aload_0r, o_callI_0, o_const_e, o_dup_e, o_getf_e, o_goto_e, o_icmp_e, o_iinc_1, o_iload_1, o_ist_1, o_new_e, o_newq_e, o_objinit_e, o_putf_e, o_vret_e, tl_n, tl_s, true_and, xc1_i, xc1_r, xfit_a, xfit_i, xfit_l, xfit_o, xnlv_i, xnlv_n, xnlv_r, xwt_0, xwt_f, xwt_i, xwt_l, xwt_r, c3.1, rc0, rs0, List.append_assoc, List.cons_append, List.nil_append, List.length_append, List.length_cons, List.length_nil, Nat.zero_add, Nat.reduceAdd, Nat.reduceLT, Nat.reduceLeDiff, Nat.reducePow, nI_clamp, nlt0, lt0_nI, not_false_eq_true, true_and, xpf_hd, xcls_hd, List.set_cons_succ, List.set_cons_zero, List.set_nil]
  refine n_gra (ap_len c3.1) (ap_get c3.1) (fun A' g4 G4 => ?_)
  simp only [eX6_init_0, eX6_init_1, eX6_init_4, eX6_init_5, eX6_init_8, eX6_init_9, eX6_init_12, eX6_init_15, eX6_init_16, eX6_init_19, eX6_init_20, eX6_init_23, eX6_init_26, eX6_init_27, eX6_init_30, eX6_init_31, eX6_init_34, eX6_init_37, eX6_init_38, eX6_init_41, eX6_init_42, eX6_init_45, eX6_init_48, eX6_init_49, eX6_init_52, eX6_init_53, eX6_init_56, eX6_init_59, eX6_init_60, eX6_init_62, eX6_init_65, eX6_init_68, eX6_init_69, eX6_init_71, eX6_init_72, eX6_init_75, eX6_init_76, eX6_init_79, eX6_init_80, eX6_init_83, eX6_init_84, eX6_init_87, eX6_init_88, eX6_init_91, eX6_init_92, eX6_init_95, eX6_init_98, Nat.add_zero, Nat.reduceAdd, Nat.reduceLeDiff, Nat.zero_le, and_true, o_aast_e, o_alen_e, o_aload_0r, o_callI_0, o_const_e, o_dup_e, o_getf_e, o_goto_e, o_icmp_e, o_iinc_1, o_iload_1, o_ist_1, o_new_e, o_newq_e, o_objinit_e, o_putf_e, o_vret_e, tl_n, tl_s, true_and, xc1_i, xc1_r, xfit_a, xfit_i, xfit_l, xfit_o, xnlv_i, xnlv_n, xnlv_r, xwt_0, xwt_f, xwt_i, xwt_l, xwt_r, rc0, rs0, List.append_assoc, List.cons_append, List.nil_append, List.length_append, List.length_cons, List.length_nil, Nat.zero_add, Nat.reduceAdd, Nat.reduceLT, Nat.reduceLeDiff, Nat.reducePow, nI_clamp, nlt0, lt0_nI, not_false_eq_true, true_and, xpf_hd, xcls_hd, List.set_cons_succ, List.set_cons_zero, List.set_nil]
  refine cu_step c3 (by decide) g4 (Nat.le_of_ble_eq_true rfl) (fun A4 c4 f4 f4' => ?_)
  have W4 := W3.fw f4 (by omega) (by omega)
  have K4 := K3.fw f4 (by omega) (by omega)
  have L4 := L3.fw f4 (by omega) (by omega)
  have H4 := G4.fw f4' (by omega) (by omega)
  clear G4 g4 f4' W3 K3 L3 f4
  simp only [eX6_init_0, eX6_init_1, eX6_init_4, eX6_init_5, eX6_init_8, eX6_init_9, eX6_init_12, eX6_init_15, eX6_init_16, eX6_init_19, eX6_init_20, eX6_init_23, eX6_init_26, eX6_init_27, eX6_init_30, eX6_init_31, eX6_init_34, eX6_init_37, eX6_init_38, eX6_init_41, eX6_init_42, eX6_init_45, eX6_init_48, eX6_init_49, eX6_init_52, eX6_init_53, eX6_init_56, eX6_init_59, eX6_init_60, eX6_init_62, eX6_init_65, eX6_init_68, eX6_init_69, eX6_init_71, eX6_init_72, eX6_init_75, eX6_init_76, eX6_init_79, eX6_init_80, eX6_init_83, eX6_init_84, eX6_init_87, eX6_init_88, eX6_init_91, eX6_init_92, eX6_init_95, eX6_init_98, Nat.add_zero, Nat.reduceAdd, Nat.reduceLeDiff, Nat.zero_le, and_true, o_aast_e, o_alen_e, o_aload_0r, o_callI_0, o_const_e, o_dup_e, o_getf_e, o_goto_e, o_icmp_e, o_iinc_1, o_iload_1, o_ist_1, o_new_e, o_newq_e, o_objinit_e, o_putf_e, o_vret_e, tl_n, tl_s, true_and, xc1_i, xc1_r, xfit_a, xfit_i, xfit_l, xfit_o, xnlv_i, xnlv_n, xnlv_r, xwt_0, xwt_f, xwt_i, xwt_l, xwt_r, c4.1, rc3, rs3, List.append_assoc, List.cons_append, List.nil_append, List.length_append, List.length_cons, List.length_nil, Nat.zero_add, Nat.reduceAdd, Nat.reduceLT, Nat.reduceLeDiff, Nat.reducePow, nI_clamp, nlt0, lt0_nI, not_false_eq_true, true_and, xpf_hd, xcls_hd, List.set_cons_succ, List.set_cons_zero, List.set_nil]
  refine n_txt (ap_len c4.1) (ap_get c4.1) (fun A' g5 G5 => ?_)
  simp only [eX6_init_0, eX6_init_1, eX6_init_4, eX6_init_5, eX6_init_8, eX6_init_9, eX6_init_12, eX6_init_15, eX6_init_16, eX6_init_19, eX6_init_20, eX6_init_23, eX6_init_26, eX6_init_27, eX6_init_30, eX6_init_31, eX6_init_34, eX6_init_37, eX6_init_38, eX6_init_41, eX6_init_42, eX6_init_45, eX6_init_48, eX6_init_49, eX6_init_52, eX6_init_53, eX6_init_56, eX6_init_59, eX6_init_60, eX6_init_62, eX6_init_65, eX6_init_68, eX6_init_69, eX6_init_71, eX6_init_72, eX6_init_75, eX6_init_76, eX6_init_79, eX6_init_80, eX6_init_83, eX6_init_84, eX6_init_87, eX6_init_88, eX6_init_91, eX6_init_92, eX6_init_95, eX6_init_98, Nat.add_zero, Nat.reduceAdd, Nat.reduceLeDiff, Nat.zero_le, and_true, o_aast_e, o_alen_e, o_aload_0r, o_callI_0, o_const_e, o_dup_e, o_getf_e, o_goto_e, o_icmp_e, o_iinc_1, o_iload_1, o_ist_1, o_new_e, o_newq_e, o_objinit_e, o_putf_e, o_vret_e, tl_n, tl_s, true_and, xc1_i, xc1_r, xfit_a, xfit_i, xfit_l, xfit_o, xnlv_i, xnlv_n, xnlv_r, xwt_0, xwt_f, xwt_i, xwt_l, xwt_r, rc3, rs3, List.append_assoc, List.cons_append, List.nil_append, List.length_append, List.length_cons, List.length_nil, Nat.zero_add, Nat.reduceAdd, Nat.reduceLT, Nat.reduceLeDiff, Nat.reducePow, nI_clamp, nlt0, lt0_nI, not_false_eq_true, true_and, xpf_hd, xcls_hd, List.set_cons_succ, List.set_cons_zero, List.set_nil]
  refine cu_step c4 (by decide) g5 (Nat.le_of_ble_eq_true rfl) (fun A5 c5 f5 f5' => ?_)
  have W5 := W4.fw f5 (by omega) (by omega)
  have K5 := K4.fw f5 (by omega) (by omega)
  have L5 := L4.fw f5 (by omega) (by omega)
  have H5 := H4.fw f5 (by omega) (by omega)
  have X5 := G5.fw f5' (by omega) (by omega)
  clear G5 g5 f5' W4 K4 L4 H4 f5
  simp only [eX6_init_0, eX6_init_1, eX6_init_4, eX6_init_5, eX6_init_8, eX6_init_9, eX6_init_12, eX6_init_15, eX6_init_16, eX6_init_19, eX6_init_20, eX6_init_23, eX6_init_26, eX6_init_27, eX6_init_30, eX6_init_31, eX6_init_34, eX6_init_37, eX6_init_38, eX6_init_41, eX6_init_42, eX6_init_45, eX6_init_48, eX6_init_49, eX6_init_52, eX6_init_53, eX6_init_56, eX6_init_59, eX6_init_60, eX6_init_62, eX6_init_65, eX6_init_68, eX6_init_69, eX6_init_71, eX6_init_72, eX6_init_75, eX6_init_76, eX6_init_79, eX6_init_80, eX6_init_83, eX6_init_84, eX6_init_87, eX6_init_88, eX6_init_91, eX6_init_92, eX6_init_95, eX6_init_98, Nat.add_zero, Nat.reduceAdd, Nat.reduceLeDiff, Nat.zero_le, and_true, o_aast_e, o_alen_e, o_aload_0r, o_callI_0, o_const_e, o_dup_e, o_getf_e, o_goto_e, o_icmp_e, o_iinc_1, o_iload_1, o_ist_1, o_new_e, o_newq_e, o_objinit_e, o_putf_e, o_vret_e, tl_n, tl_s, true_and, xc1_i, xc1_r, xfit_a, xfit_i, xfit_l, xfit_o, xnlv_i, xnlv_n, xnlv_r, xwt_0, xwt_f, xwt_i, xwt_l, xwt_r, c5.1, n6, List.append_assoc, List.cons_append, List.nil_append, List.length_append, List.length_cons, List.length_nil, Nat.zero_add, Nat.reduceAdd, Nat.reduceLT, Nat.reduceLeDiff, Nat.reducePow, nI_clamp, nlt0, lt0_nI, not_false_eq_true, true_and, xpf_hd, xcls_hd, List.set_cons_succ, List.set_cons_zero, List.set_nil]
  refine cu_step (e := .inl (6, .inr (.inr (.inr (.inr (fun _ => none)))))) (m := 1) c5 (by decide) ⟨ap_len c5.1, fun j hj => rfl⟩ (Nat.le_of_ble_eq_true rfl) (fun A6 c6 f6 f6' => ?_)
  have W6 := W5.fw f6 (by omega) (by omega)
  have K6 := K5.fw f6 (by omega) (by omega)
  have L6 := L5.fw f6 (by omega) (by omega)
  have H6 := H5.fw f6 (by omega) (by omega)
  have X6 := X5.fw f6 (by omega) (by omega)
  have a6 : A6[o + 44]? = some (.inl (6, .inr (.inr (.inr (.inr (tpI o 0)))))) := by
    rw [f6' _ (by omega) (by omega), ap_get c5.1]
    congr 6
  exact l_cls (Q := fun v AH' _ => Q v AH') k 6 0 (by omega) A6 ⟨c6, W6, K6, L6, H6, X6, a6, fun t ht => absurd ht (Nat.not_lt_zero t)⟩
end CTOR
