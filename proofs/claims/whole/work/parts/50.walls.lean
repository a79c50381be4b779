/-! walls: the mathematics -/
def wdF (x : sLat) (R : Nat) : Nat → Nat
  | 0 => R
  | g + 1 => if R.testBit g = true then wdF x R g ||| x.ms g else wdF x R g
def rch (x : sLat) (a : Nat) : Nat → Nat
  | 0 => 2 ^ a
  | k + 1 => wdF x (rch x a k) x.gT
theorem wdF_iff {x : sLat} {R i : Nat} : ∀ n, (wdF x R n).testBit i = true ↔ (R.testBit i = true ∨ ∃ u, u < n ∧ R.testBit u = true ∧ (x.ms u).testBit i = true)
  | 0 => ⟨Or.inl, fun h => by
      rcases h with h | ⟨u, h, _⟩
      · exact h
      · omega⟩
  | n + 1 => by
    have ih := wdF_iff (x := x) (R := R) (i := i) n
    unfold wdF
    by_cases e : R.testBit n = true
    · rw [if_pos e, Nat.testBit_or, Bool.or_eq_true, ih]
      constructor
      · rintro ((h | ⟨u, h, h2⟩) | h)
        · exact Or.inl h
        · exact Or.inr ⟨u, by omega, h2⟩
        · exact Or.inr ⟨n, by omega, e, h⟩
      · rintro (h | ⟨u, h, h2, h3⟩)
        · exact Or.inl (Or.inl h)
        · by_cases e2 : u = n
          · subst e2; exact Or.inr h3
          · exact Or.inl (Or.inr ⟨u, by omega, h2, h3⟩)
    · rw [if_neg e, ih]
      constructor
      · rintro (h | ⟨u, h, h2⟩)
        · exact Or.inl h
        · exact Or.inr ⟨u, by omega, h2⟩
      · rintro (h | ⟨u, h, h2, h3⟩)
        · exact Or.inl h
        · by_cases e2 : u = n
          · subst e2; exact absurd h2 e
          · exact Or.inr ⟨u, by omega, h2, h3⟩
theorem wdF_lt {x : sLat} (ok : x.ok) {R : Nat} (hR : R < 2 ^ 36) : ∀ n, wdF x R n < 2 ^ 36
  | 0 => hR
  | n + 1 => by
    unfold wdF
    split
    · exact Nat.or_lt_two_pow (wdF_lt ok hR n) (ms_lt ok n)
    · exact wdF_lt ok hR n
theorem rch_lt {x : sLat} (ok : x.ok) {a : Nat} (ha : a < 36) : ∀ k, rch x a k < 2 ^ 36
  | 0 => Nat.pow_lt_pow_right (by decide) ha
  | k + 1 => wdF_lt ok (rch_lt ok ha k) _
theorem rch_s {x : sLat} {a k i : Nat} : (rch x a (k + 1)).testBit i = true ↔ ((rch x a k).testBit i = true ∨ ∃ u, u < x.gT ∧ (rch x a k).testBit u = true ∧ (x.ms u).testBit i = true) := wdF_iff _
theorem bc_mono {R R' v : Nat} (hv : R.testBit v = false) (hv' : R'.testBit v = true) : ∀ n, (∀ i, i < n → R.testBit i = true → R'.testBit i = true) → bc R n + (if v < n then 1 else 0) ≤ bc R' n
  | 0, _ => Nat.zero_le _
  | n + 1, h => by
    have ih := bc_mono hv hv' n (fun i hi => h i (by omega))
    show bc R n + (if R.testBit n then 1 else 0) + (if v < n + 1 then 1 else 0) ≤ bc R' n + (if R'.testBit n then 1 else 0)
    by_cases e : v = n
    · subst e
      rw [hv, hv', if_pos (Nat.lt_succ_self v)]
      rw [if_neg (Nat.lt_irrefl v)] at ih
      simp only [Bool.false_eq_true, ↓reduceIte]
      omega
    · have e2 : (if v < n + 1 then 1 else 0) = (if v < n then 1 else 0) := by
        by_cases e3 : v < n
        · rw [if_pos e3, if_pos (by omega)]
        · rw [if_neg e3, if_neg (by omega)]
      rw [e2]
      have h1 := h n (by omega)
      by_cases e4 : R.testBit n = true
      · rw [e4, h1 e4]
        simp only [↓reduceIte]
        omega
      · rw [if_neg e4]
        omega
/-- every cell is reached by steps -/
def stepOK (hi wi ed c : Nat) : Bool := (c % wi == 0 || (nbF hi wi ed c 3 == some (c - 1) && nbF hi wi ed (c - 1) 1 == some c)) && (c < wi || (nbF hi wi ed c 0 == some (c - wi) && nbF hi wi ed (c - wi) 2 == some c))
theorem step_t : ∀ hi, hi < 5 → ∀ wi, wi < 5 → ∀ ed, ed < 3 → ∀ c, c < (hi + 2) * (wi + 2) → stepOK (hi + 2) (wi + 2) ed c = true := by decide +kernel
theorem nb_lo {x : sLat} {c d : Nat} (hd : d < 4) : x.nb c d = nbF x.hi x.wi x.ed c d := by
  unfold sLat.nb stp
  split
  · rcases (show d = 0 ∨ d = 1 ∨ d = 2 ∨ d = 3 by omega) with rfl | rfl | rfl | rfl <;> rfl
  · rfl
theorem step_x {x : sLat} (ok : x.ok) {c : Nat} (hc : c < x.n) : (c % x.wi = 0 ∨ (x.nb c 3 = some (c - 1) ∧ x.nb (c - 1) 1 = some c)) ∧ (c < x.wi ∨ (x.nb c 0 = some (c - x.wi) ∧ x.nb (c - x.wi) 2 = some c)) := by
  have h1 := ok.2.2.1
  have h2 := ok.2.2.2.1
  have h3 := ok.2.2.2.2.2.2.1
  rw [nb_lo (by decide), nb_lo (by decide), nb_lo (by decide), nb_lo (by decide)]
  have := step_t (x.hi - 2) (by omega) (x.wi - 2) (by omega) x.ed (by omega) c (by rw [show x.hi - 2 + 2 = x.hi by omega, show x.wi - 2 + 2 = x.wi by omega]; exact hc)
  rw [show x.hi - 2 + 2 = x.hi by omega, show x.wi - 2 + 2 = x.wi by omega] at this
  simpa [stepOK] using this
theorem con_x {x : sLat} (ok : x.ok) {S : Nat → Prop} (hS : ∀ c, c < x.n → S c → ∀ d, d < x.nd → ∀ o, x.nb c d = some o → S o) {c0 : Nat} (h0 : c0 < x.n) (hs0 : S c0) : ∀ c, c < x.n → S c := by
  have hnd := sLat.nd4 (x := x)
  have h2 := ok.2.2.2.1
  have back : ∀ n c, c ≤ n → c < x.n → S c → S 0 := by
    intro n
    induction n with
    | zero => intro c hc _ hs; rw [show c = 0 by omega] at hs; exact hs
    | succ n ih =>
      intro c hc hcn hs
      by_cases e : c = 0
      · rw [e] at hs; exact hs
      · obtain ⟨a1, a2⟩ := step_x ok hcn
        rcases a1 with a1 | a1
        · rcases a2 with a2 | a2
          · rw [Nat.mod_eq_of_lt a2] at a1; exact absurd a1 e
          · exact ih (c - x.wi) (by omega) (by omega) (hS c hcn hs 0 (by omega) _ a2.1)
        · exact ih (c - 1) (by omega) (by omega) (hS c hcn hs 3 (by omega) _ a1.1)
  have z := back c0 c0 (Nat.le_refl _) h0 hs0
  have fwd : ∀ n c, c ≤ n → c < x.n → S c := by
    intro n
    induction n with
    | zero => intro c hc _; rw [show c = 0 by omega]; exact z
    | succ n ih =>
      intro c hc hcn
      by_cases e : c = 0
      · rw [e]; exact z
      · obtain ⟨a1, a2⟩ := step_x ok hcn
        rcases a1 with a1 | a1
        · rcases a2 with a2 | a2
          · rw [Nat.mod_eq_of_lt a2] at a1; exact absurd a1 e
          · exact hS (c - x.wi) (by omega) (ih _ (by omega) (by omega)) 2 (by omega) _ a2.2
        · exact hS (c - 1) (by omega) (ih _ (by omega) (by omega)) 1 (by omega) _ a1.2
  exact fun c hc => fwd c c (Nat.le_refl _) hc
def clR (x : sLat) (R : Nat) : Prop := ∀ u, u < x.gT → R.testBit u = true → ∀ v, (x.ms u).testBit v = true → R.testBit v = true
theorem rch_c {x : sLat} (ok : x.ok) {a : Nat} (ha : a < x.gT) : ∀ k, (∃ j, j < k ∧ clR x (rch x a j)) ∨ k + 1 ≤ bc (rch x a k) x.gT
  | 0 => Or.inr (by rw [show rch x a 0 = 2 ^ a from rfl, bc_pow ha]; exact Nat.le_refl 1)
  | k + 1 => by
    rcases rch_c ok ha k with ⟨j, h1, h2⟩ | h
    · exact Or.inl ⟨j, by omega, h2⟩
    · by_cases hc : clR x (rch x a k)
      · exact Or.inl ⟨k, by omega, hc⟩
      · unfold clR at hc
        obtain ⟨u, hc⟩ := Classical.not_forall.mp hc
        obtain ⟨hu, hc⟩ := Classical.not_imp.mp hc
        obtain ⟨hu2, hc⟩ := Classical.not_imp.mp hc
        obtain ⟨v, hc⟩ := Classical.not_forall.mp hc
        obtain ⟨hv, hc⟩ := Classical.not_imp.mp hc
        have hvl : v < x.gT := by
          refine Classical.byContradiction (fun z => ?_)
          rw [ms_hi ok (by omega)] at hv
          cases hv
        refine Or.inr ?_
        have := bc_mono (R := rch x a k) (R' := rch x a (k + 1)) (v := v) (by simpa using hc) (rch_s.mpr (Or.inr ⟨u, hu, hu2, hv⟩)) x.gT (fun i _ hi => rch_s.mpr (Or.inl hi))
        rw [if_pos hvl] at this
        omega
theorem rch_m {x : sLat} {a i : Nat} : ∀ k, (rch x a k).testBit a = true
  | 0 => by rw [show rch x a 0 = 2 ^ a from rfl, Nat.testBit_two_pow]; simp
  | k + 1 => rch_s.mpr (Or.inl (rch_m (i := i) k))
theorem rch_all {x : sLat} (ok : x.ok) {c0 c1 : Nat} (h0 : c0 < x.n) (h1 : c1 < x.n) : ∃ k, k < x.gT ∧ (rch x (x.gn c0) k).testBit (x.gn c1) = true := by
  rcases rch_c ok (gn_lt h0) x.gT with ⟨j, hj, hcl⟩ | h
  · refine ⟨j, hj, ?_⟩
    refine con_x ok (S := fun c => (rch x (x.gn c0) j).testBit (x.gn c) = true) (fun c hc hs d hd o ho => ?_) h0 (rch_m (i := 0) j) c1 h1
    by_cases e : x.gn o = x.gn c
    · show _ = true
      rw [e]; exact hs
    · exact hcl (x.gn c) (gn_lt hc) hs (x.gn o) ((ms_iff ok).mpr ⟨c, hc, d, hd, o, ho, e, rfl, rfl⟩)
  · have := bc_le (x := rch x (x.gn c0) x.gT) x.gT
    omega
theorem least_of {P : Nat → Prop} : ∀ n, P n → ∃ k, k ≤ n ∧ P k ∧ ∀ j, j < k → ¬ P j := by
  intro n
  induction n using Nat.strongRecOn with
  | ind n ih =>
    intro hp
    by_cases h : ∃ j, j < n ∧ P j
    · obtain ⟨j, h1, h2⟩ := h
      obtain ⟨k, a1, a2⟩ := ih j h1 h2
      exact ⟨k, by omega, a2⟩
    · exact ⟨n, Nat.le_refl n, hp, fun j hj hpj => h ⟨j, hj, hpj⟩⟩
theorem wal_ex {x : sLat} (ok : x.ok) {c0 c1 : Nat} (h0 : c0 < x.n) (h1 : c1 < x.n) : ∃ k, k < x.gT ∧ (rch x (x.gn c0) k).testBit (x.gn c1) = true ∧ ∀ j, j < k → ¬ (rch x (x.gn c0) j).testBit (x.gn c1) = true := by
  obtain ⟨n, hn, hb⟩ := rch_all ok h0 h1
  obtain ⟨k, a1, a2, a3⟩ := least_of (P := fun k => (rch x (x.gn c0) k).testBit (x.gn c1) = true) n hb
  exact ⟨k, by omega, a2, a3⟩
noncomputable def sLat.wal (x : sLat) (a b : Nat) : Nat := @dite _ (∃ k, k < x.gT ∧ (rch x a k).testBit b = true ∧ ∀ j, j < k → ¬ (rch x a j).testBit b = true) (Classical.propDecidable _) (fun h => Classical.choose h) (fun _ => 0)
theorem wal_s {x : sLat} (ok : x.ok) {c0 c1 : Nat} (h0 : c0 < x.n) (h1 : c1 < x.n) : x.wal (x.gn c0) (x.gn c1) < x.gT ∧ (rch x (x.gn c0) (x.wal (x.gn c0) (x.gn c1))).testBit (x.gn c1) = true ∧ ∀ j, j < x.wal (x.gn c0) (x.gn c1) → ¬ (rch x (x.gn c0) j).testBit (x.gn c1) = true := by
  have h := wal_ex ok h0 h1
  unfold sLat.wal
  rw [dif_pos h]
  exact Classical.choose_spec h
noncomputable def sLat.aWal (x : sLat) (a b : Int32) : Int32 := match ix x.n a with
  | none => -1
  | some a => match ix x.n b with
    | none => -1
    | some b => nI (x.wal (x.gn a) (x.gn b))
/-! shifts of longs -/
theorem shm_t : ∀ v, v < 36 → (((nI v).toInt64 &&& 63).toBitVec.smod 64).toNat = v := by decide +kernel
theorem shrL {m v : Nat} (hm : m < 2 ^ 36) (hv : v < 36) : (lg_cmp ((lN m >>> ((nI v).toInt64 &&& 63)) &&& 1) 0 = 0) = (m.testBit v = false) := by
  rw [propext (lg_cmp_eq _ _)]
  have e1 : lN m >>> ((nI v).toInt64 &&& 63) = lN (m / 2 ^ v) := by
    apply Int64.toBitVec_inj.mp
    rw [Int64.toBitVec_shiftRight]
    have e0 : ((nI v).toInt64 &&& 63).toBitVec.smod 64 = BitVec.ofNat 64 v := BitVec.eq_of_toNat_eq (by rw [shm_t v hv, BitVec.toNat_ofNat]; omega)
    rw [e0]
    show (BitVec.ofNat 64 m).sshiftRight (BitVec.ofNat 64 v).toNat = BitVec.ofNat 64 (m / 2 ^ v)
    rw [show (BitVec.ofNat 64 v).toNat = v by rw [BitVec.toNat_ofNat]; omega]
    have hmsb : (BitVec.ofNat 64 m).msb = false := by
      rw [BitVec.msb_eq_decide, decide_eq_false_iff_not, BitVec.toNat_ofNat]
      omega
    rw [BitVec.sshiftRight_eq_of_msb_false hmsb]
    apply BitVec.eq_of_toNat_eq
    rw [BitVec.toNat_ushiftRight, BitVec.toNat_ofNat, BitVec.toNat_ofNat, Nat.shiftRight_eq_div_pow]
    have hle : m / 2 ^ v ≤ m := Nat.div_le_self _ _
    rw [Nat.mod_eq_of_lt (show m < 2 ^ 64 by omega), Nat.mod_eq_of_lt (show m / 2 ^ v < 2 ^ 64 by omega)]
  rw [e1, show (1 : Int64) = lN 1 from rfl, lN_and, Nat.and_one_is_mod, show (0 : Int64) = lN 0 from rfl]
  have hb : m.testBit v = decide (m / 2 ^ v % 2 = 1) := Nat.testBit_eq_decide_div_mod_eq
  rw [hb, decide_eq_false_iff_not]
  rcases (show m / 2 ^ v % 2 = 0 ∨ m / 2 ^ v % 2 = 1 by omega) with e | e <;> rw [e]
  · exact propext ⟨fun _ => by decide, fun _ => rfl⟩
  · exact propext ⟨fun h => absurd h (by decide), fun h => absurd rfl h⟩
section WALC
variable {AH : xH} {g b : Nat} {s : sGra} {x : sLat}
theorem l_wid (hg : GraAt AH g s) (hG : GrOK x s) (ok : x.ok) {R : Nat} (hR : R < 2 ^ 36) {Q : xQ} (k : Q (some (.long (lN (wdF x R x.gT)))) AH (0, 0)) : ∀ (m j : Nat), j + m = x.gT →
    XR TX0_widened 5 [some (.ref g), some (.long (lN R)), none, some (.long (lN (wdF x R j))), none, some (.int (nI j))] [] AH (0, 0) Q := by
  have hn := sLat.n36 ok
  have hgt := sLat.gT_le (x := x)
  have ett := hG.2.2.2.2
  intro m
  induction m with
  | zero =>
    intro j hj
    rw [eX0_widened_5]
    simp only [eX0_widened_0, eX0_widened_1, eX0_widened_2, eX0_widened_3, eX0_widened_7, eX0_widened_8, eX0_widened_11, eX0_widened_14, eX0_widened_15, eX0_widened_17, eX0_widened_18, eX0_widened_19, eX0_widened_20, eX0_widened_21, eX0_widened_22, eX0_widened_25, eX0_widened_26, eX0_widened_27, eX0_widened_30, eX0_widened_32, eX0_widened_33, eX0_widened_34, eX0_widened_35, eX0_widened_38, eX0_widened_41, eX0_widened_42, o_aload_0r, o_const_e, o_getf_e, o_goto_e, o_icmp_e, o_if_e, o_iinc_5, o_iload_5, o_ist_5, o_lald_e, o_lil_e, o_ll_e, o_lli_e, o_lload_1, o_lload_3, o_lret_e, o_lst_3, true_and, xnlv_i, xnlv_n, xnlv_r, hg.cls, hg.g0, hg.g1, hg.g2, hg.g3, hg.g4, hg.g5, ett, le_nI (a := x.gT) (b := j) (by omega) (by omega)]
    refine ⟨fun _ => ?_, fun g => by omega⟩
    rw [show j = x.gT by omega]
    exact k
  | succ m ih =>
    intro j hj
    have this := ih (j + 1) (by omega)
    unfold wdF at this
    have e1 : s.to j = lN (x.ms j) := hG.2.2.2.1 j (by omega)
    rw [eX0_widened_5]
    simp only [eX0_widened_0, eX0_widened_1, eX0_widened_2, eX0_widened_3, eX0_widened_7, eX0_widened_8, eX0_widened_11, eX0_widened_14, eX0_widened_15, eX0_widened_17, eX0_widened_18, eX0_widened_19, eX0_widened_20, eX0_widened_21, eX0_widened_22, eX0_widened_25, eX0_widened_26, eX0_widened_27, eX0_widened_30, eX0_widened_32, eX0_widened_33, eX0_widened_34, eX0_widened_35, eX0_widened_38, eX0_widened_41, eX0_widened_42, o_aload_0r, o_const_e, o_getf_e, o_goto_e, o_icmp_e, o_if_e, o_iinc_5, o_iload_5, o_ist_5, o_lald_e, o_lil_e, o_ll_e, o_lli_e, o_lload_1, o_lload_3, o_lret_e, o_lst_3, true_and, xnlv_i, xnlv_n, xnlv_r, hg.cls, hg.g0, hg.g1, hg.g2, hg.g3, hg.g4, hg.g5, ett, le_nI (a := x.gT) (b := j) (by omega) (by omega), shrL hR (v := j) (by omega), hg.r_to (c := j) (by omega), e1, lN_or, n1, nI_add]
    refine ⟨fun g => by omega, fun _ => ⟨fun g1 => ?_, fun g1 => ?_⟩⟩
    · rw [if_neg (by rw [g1]; decide)] at this
      exact this
    · rw [if_pos (by simpa using g1)] at this
      exact this
/-- Grains.widened(R) -/
theorem c_wid (hg : GraAt AH g s) (hG : GrOK x s) (ok : x.ok) {R : Nat} (hR : R < 2 ^ 36) {Q : Option Value → xH → Prop} (k : Q (some (.long (lN (wdF x R x.gT)))) AH) : XC MX0_widened [.ref g, .long (lN R)] AH Q := by
  refine XC.ofR (L := [some (.ref g), some (.long (lN R)), none, none, none, none]) KX0_widened (by decide +kernel) (by first | decide | exact Nat.le_of_ble_eq_true rfl) rfl ?_
  simp only [eX0_widened_0, eX0_widened_1, eX0_widened_2, eX0_widened_3, eX0_widened_7, eX0_widened_8, eX0_widened_11, eX0_widened_14, eX0_widened_15, eX0_widened_17, eX0_widened_18, eX0_widened_19, eX0_widened_20, eX0_widened_21, eX0_widened_22, eX0_widened_25, eX0_widened_26, eX0_widened_27, eX0_widened_30, eX0_widened_32, eX0_widened_33, eX0_widened_34, eX0_widened_35, eX0_widened_38, eX0_widened_41, eX0_widened_42, o_aload_0r, o_const_e, o_getf_e, o_goto_e, o_icmp_e, o_if_e, o_iinc_5, o_iload_5, o_ist_5, o_lald_e, o_lil_e, o_ll_e, o_lli_e, o_lload_1, o_lload_3, o_lret_e, o_lst_3, true_and, xnlv_i, xnlv_n, xnlv_r]
  exact l_wid hg hG ok hR k x.gT 0 (by omega)
theorem l_wal (hg : GraAt AH g s) (hG : GrOK x s) (ok : x.ok) {c0 c1 : Nat} (h0 : c0 < x.n) (h1 : c1 < x.n) {Q : xQ} (k : Q (some (.int (nI (x.wal (x.gn c0) (x.gn c1))))) AH (0, 0)) : ∀ (m j : Nat), j + m = x.wal (x.gn c0) (x.gn c1) →
    XR TX0_wallsBetween 7 [some (.ref g), some (.int (nI (x.gn c0))), some (.int (nI (x.gn c1))), some (.long (lN (rch x (x.gn c0) j))), none, some (.int (nI j))] [] AH (0, 0) Q := by
  have hn := sLat.n36 ok
  have hgt := sLat.gT_le (x := x)
  have ett := hG.2.2.2.2
  have hw := wal_s ok h0 h1
  have l0 := gn_lt h0
  have l1 := gn_lt h1
  intro m
  induction m with
  | zero =>
    intro j hj
    have hr := rch_lt ok (a := x.gn c0) (by omega) j
    have hw2 := hw.2.1
    have e : x.wal (x.gn c0) (x.gn c1) = j := by omega
    rw [e] at hw2 k hw
    rw [eX0_wallsBetween_7]
    simp only [eX0_wallsBetween_0, eX0_wallsBetween_1, eX0_wallsBetween_2, eX0_wallsBetween_3, eX0_wallsBetween_4, eX0_wallsBetween_5, eX0_wallsBetween_9, eX0_wallsBetween_10, eX0_wallsBetween_13, eX0_wallsBetween_16, eX0_wallsBetween_17, eX0_wallsBetween_18, eX0_wallsBetween_19, eX0_wallsBetween_20, eX0_wallsBetween_21, eX0_wallsBetween_22, eX0_wallsBetween_23, eX0_wallsBetween_26, eX0_wallsBetween_28, eX0_wallsBetween_29, eX0_wallsBetween_30, eX0_wallsBetween_31, eX0_wallsBetween_34, eX0_wallsBetween_35, eX0_wallsBetween_38, eX0_wallsBetween_41, eX0_wallsBetween_43, Nat.add_zero, Nat.reduceAdd, Nat.reduceLeDiff, Nat.zero_le, and_true, o_aload_0r, o_callV_1, o_const_e, o_getf_e, o_goto_e, o_icmp_e, o_if_e, o_iinc_5, o_iload_1, o_iload_2, o_iload_5, o_iret_e, o_ist_5, o_lil_e, o_ll_e, o_lli_e, o_lload_3, o_lst_3, tl_n, tl_s, true_and, xnlv_i, xnlv_n, xnlv_r, xwt_0, xwt_f, xwt_i, xwt_l, xwt_r, hg.cls, hg.g0, hg.g1, hg.g2, hg.g3, hg.g4, hg.g5, ett, le_nI (a := x.gT) (b := j) (by omega) (by omega), shrL hr (v := x.gn c1) (by omega), hw2, not_true_eq_false, not_false_eq_true, true_implies, false_implies, and_true, true_and, implies_true, forall_const, ↓reduceIte, Bool.false_eq_true, i10, i10n]
    exact ⟨fun g => by omega, fun _ => ⟨fun g => (by cases g), fun _ => k⟩⟩
  | succ m ih =>
    intro j hj
    have hr := rch_lt ok (a := x.gn c0) (by omega) j
    have hw2 := hw.2.2 j (by omega)
    have this := ih (j + 1) (by omega)
    rw [eX0_wallsBetween_7]
    simp only [eX0_wallsBetween_0, eX0_wallsBetween_1, eX0_wallsBetween_2, eX0_wallsBetween_3, eX0_wallsBetween_4, eX0_wallsBetween_5, eX0_wallsBetween_9, eX0_wallsBetween_10, eX0_wallsBetween_13, eX0_wallsBetween_16, eX0_wallsBetween_17, eX0_wallsBetween_18, eX0_wallsBetween_19, eX0_wallsBetween_20, eX0_wallsBetween_21, eX0_wallsBetween_22, eX0_wallsBetween_23, eX0_wallsBetween_26, eX0_wallsBetween_28, eX0_wallsBetween_29, eX0_wallsBetween_30, eX0_wallsBetween_31, eX0_wallsBetween_34, eX0_wallsBetween_35, eX0_wallsBetween_38, eX0_wallsBetween_41, eX0_wallsBetween_43, Nat.add_zero, Nat.reduceAdd, Nat.reduceLeDiff, Nat.zero_le, and_true, o_aload_0r, o_callV_1, o_const_e, o_getf_e, o_goto_e, o_icmp_e, o_if_e, o_iinc_5, o_iload_1, o_iload_2, o_iload_5, o_iret_e, o_ist_5, o_lil_e, o_ll_e, o_lli_e, o_lload_3, o_lst_3, tl_n, tl_s, true_and, xnlv_i, xnlv_n, xnlv_r, xwt_0, xwt_f, xwt_i, xwt_l, xwt_r, hg.cls, hg.g0, hg.g1, hg.g2, hg.g3, hg.g4, hg.g5, ett, le_nI (a := x.gT) (b := j) (by omega) (by omega), shrL hr (v := x.gn c1) (by omega)]
    refine ⟨fun g => by omega, fun _ => ⟨fun _ => c_wid hg hG ok hr ?_, fun g => absurd (by simpa using hw2) g⟩⟩
    simp only [eX0_wallsBetween_0, eX0_wallsBetween_1, eX0_wallsBetween_2, eX0_wallsBetween_3, eX0_wallsBetween_4, eX0_wallsBetween_5, eX0_wallsBetween_9, eX0_wallsBetween_10, eX0_wallsBetween_13, eX0_wallsBetween_16, eX0_wallsBetween_17, eX0_wallsBetween_18, eX0_wallsBetween_19, eX0_wallsBetween_20, eX0_wallsBetween_21, eX0_wallsBetween_22, eX0_wallsBetween_23, eX0_wallsBetween_26, eX0_wallsBetween_28, eX0_wallsBetween_29, eX0_wallsBetween_30, eX0_wallsBetween_31, eX0_wallsBetween_34, eX0_wallsBetween_35, eX0_wallsBetween_38, eX0_wallsBetween_41, eX0_wallsBetween_43, Nat.add_zero, Nat.reduceAdd, Nat.reduceLeDiff, Nat.zero_le, and_true, o_aload_0r, o_callV_1, o_const_e, o_getf_e, o_goto_e, o_icmp_e, o_if_e, o_iinc_5, o_iload_1, o_iload_2, o_iload_5, o_iret_e, o_ist_5, o_lil_e, o_ll_e, o_lli_e, o_lload_3, o_lst_3, tl_n, tl_s, true_and, xnlv_i, xnlv_n, xnlv_r, xwt_0, xwt_f, xwt_i, xwt_l, xwt_r, n1, nI_add]
    exact this
/-- Grains.wallsBetween(a, b) -/
theorem c_wal (hg : GraAt AH g s) (hG : GrOK x s) (ok : x.ok) {c0 c1 : Nat} (h0 : c0 < x.n) (h1 : c1 < x.n) {Q : Option Value → xH → Prop} (k : Q (some (.int (nI (x.wal (x.gn c0) (x.gn c1))))) AH) : XC MX0_wallsBetween [.ref g, .int (nI (x.gn c0)), .int (nI (x.gn c1))] AH Q := by
  have hn := sLat.n36 ok
  have hgt := sLat.gT_le (x := x)
  have l0 := gn_lt h0
  refine XC.ofR (L := [some (.ref g), some (.int (nI (x.gn c0))), some (.int (nI (x.gn c1))), none, none, none]) KX0_wallsBetween (by decide +kernel) (by first | decide | exact Nat.le_of_ble_eq_true rfl) rfl ?_
  simp only [eX0_wallsBetween_0, eX0_wallsBetween_1, eX0_wallsBetween_2, eX0_wallsBetween_3, eX0_wallsBetween_4, eX0_wallsBetween_5, eX0_wallsBetween_9, eX0_wallsBetween_10, eX0_wallsBetween_13, eX0_wallsBetween_16, eX0_wallsBetween_17, eX0_wallsBetween_18, eX0_wallsBetween_19, eX0_wallsBetween_20, eX0_wallsBetween_21, eX0_wallsBetween_22, eX0_wallsBetween_23, eX0_wallsBetween_26, eX0_wallsBetween_28, eX0_wallsBetween_29, eX0_wallsBetween_30, eX0_wallsBetween_31, eX0_wallsBetween_34, eX0_wallsBetween_35, eX0_wallsBetween_38, eX0_wallsBetween_41, eX0_wallsBetween_43, Nat.add_zero, Nat.reduceAdd, Nat.reduceLeDiff, Nat.zero_le, and_true, o_aload_0r, o_callV_1, o_const_e, o_getf_e, o_goto_e, o_icmp_e, o_if_e, o_iinc_5, o_iload_1, o_iload_2, o_iload_5, o_iret_e, o_ist_5, o_lil_e, o_ll_e, o_lli_e, o_lload_3, o_lst_3, tl_n, tl_s, true_and, xnlv_i, xnlv_n, xnlv_r, xwt_0, xwt_f, xwt_i, xwt_l, xwt_r, shlL_t (x.gn c0) (by omega)]
  exact l_wal hg hG ok h0 h1 k _ 0 (Nat.zero_add _)
end WALC
