/-! the text: the picture -/
theorem n48 : (48 : Int32) = nI 48 := rfl
theorem n57 : (57 : Int32) = nI 57 := rfl
theorem n59 : (59 : Int32) = nI 59 := rfl
theorem n101 : (101 : Int32) = nI 101 := rfl
theorem n102 : (102 : Int32) = nI 102 := rfl
theorem n104 : (104 : Int32) = nI 104 := rfl
theorem n109 : (109 : Int32) = nI 109 := rfl
theorem n110 : (110 : Int32) = nI 110 := rfl
theorem n112 : (112 : Int32) = nI 112 := rfl
theorem n115 : (115 : Int32) = nI 115 := rfl
abbrev isL (L : Nat) : Prop := L = 99 ∨ L = 101 ∨ L = 102 ∨ L = 104 ∨ L = 109 ∨ L = 110 ∨ L = 112 ∨ L = 115
def wd (L : Nat) : Nat := if L = 110 ∨ L = 101 then 1 else if L = 109 then 3 else if L = 102 then 5 else 2
def fg (L k : Nat) : Nat := if L = 115 ∨ L = 99 then (if k < 2 then 1 else 0) else if L = 109 then (if k = 0 then 2 else if k = 1 then 1 else 0) else if L = 102 then (if k < 2 then 2 else 1) else if L = 112 ∨ L = 104 then (if k = 0 then 2 else 0) else if L = 110 ∨ L = 101 then (if k = 0 then 1 else 0) else 0
theorem fg_s {L : Nat} (h : isL L) : sm (fg L) 3 = wd L := by
  rcases h with rfl | rfl | rfl | rfl | rfl | rfl | rfl | rfl <;> decide
theorem fg_p {L : Nat} (h : isL L) : 0 < fg L 0 := by
  rcases h with rfl | rfl | rfl | rfl | rfl | rfl | rfl | rfl <;> decide
theorem wd_p (L : Nat) : 0 < wd L ∧ wd L ≤ 5 := by
  unfold wd
  split
  · omega
  · split
    · omega
    · split <;> omega
theorem fg_n {L : Nat} (h : ¬ isL L) (k : Nat) : fg L k = 0 := by
  unfold fg
  rw [if_neg (by omega), if_neg (by omega), if_neg (by omega), if_neg (by omega), if_neg (by omega)]
theorem sm_mono {f : Nat → Nat} {a : Nat} : ∀ b, sm f a ≤ sm f (a + b)
  | 0 => Nat.le_refl _
  | b + 1 => Nat.le_trans (sm_mono b) (by show sm f (a + b) ≤ sm f (a + b) + f (a + b); omega)
abbrev isD (c : Nat) : Prop := 48 ≤ c ∧ c ≤ 57
/-- the first place that holds no digit -/
def dgF (f : Nat → Nat) (n q : Nat) : Nat → Option Nat
  | 0 => none
  | i + 1 => match dgF f n q i with
    | some z => some z
    | none => if q + i < n ∧ isD (f (q + i)) then none else some (q + i)
theorem dgF_some {f : Nat → Nat} {n q k z : Nat} (h : dgF f n q k = some z) : ∀ m, dgF f n q (k + m) = some z
  | 0 => h
  | m + 1 => by
    show (match dgF f n q (k + m) with | some z => some z | none => _) = _
    rw [dgF_some h m]
theorem dgF_hit {f : Nat → Nat} {n q i k : Nat} (h : dgF f n q i = none) (g : ¬ (q + i < n ∧ isD (f (q + i)))) (hk : i < k) : dgF f n q k = some (q + i) := by
  have : dgF f n q (i + 1) = some (q + i) := by
    unfold dgF
    rw [h]
    dsimp only
    rw [if_neg g]
  have := dgF_some this (k - (i + 1))
  rw [show i + 1 + (k - (i + 1)) = k by omega] at this
  exact this
theorem dgF_s {f : Nat → Nat} {n q i : Nat} (h : dgF f n q i = none) (g : q + i < n ∧ isD (f (q + i))) : dgF f n q (i + 1) = none := by
  unfold dgF
  rw [h]
  dsimp only
  rw [if_pos g]
theorem dgF_lt {f : Nat → Nat} {n q k z : Nat} (hq : q ≤ n) (h : dgF f n q k = some z) : z ≤ n := by
  induction k with
  | zero => cases h
  | succ k ih =>
    unfold dgF at h
    cases hd : dgF f n q k with
    | some y =>
      rw [hd] at h
      cases h
      exact ih hd
    | none =>
      rw [hd] at h
      dsimp only at h
      split at h
      · cases h
      · cases h
        rename_i g
        by_cases e : k = 0
        · omega
        · have : q + (k - 1) < n := by
            obtain ⟨k', rfl⟩ : ∃ k', k = k' + 1 := ⟨k - 1, by omega⟩
            unfold dgF at hd
            split at hd
            · cases hd
            · split at hd
              · rename_i g2
                simpa using g2.1
              · cases hd
          omega
theorem dgF_in {f : Nat → Nat} {n q : Nat} : ∀ {k : Nat}, dgF f n q k = none → ∀ i, i < k → q + i < n ∧ isD (f (q + i))
  | 0, _, i, hi => by omega
  | k + 1, h, i, hi => by
    unfold dgF at h
    split at h
    · cases h
    · rename_i hd
      split at h
      · rename_i g
        by_cases e : i = k
        · subst e; exact g
        · exact dgF_in hd i (by omega)
      · cases h
/-- where clauses begin, and end -/
def pl (f : Nat → Nat) : Nat → Nat
  | 0 => 0
  | j + 1 => pl f j + 2 + wd (f (pl f j))
def eC (f : Nat → Nat) (c : Nat) : Nat := pl f c + 1 + wd (f (pl f c))
theorem pl_s {f : Nat → Nat} {c : Nat} : pl f (c + 1) = eC f c + 1 := by
  show pl f c + 2 + wd (f (pl f c)) = pl f c + 1 + wd (f (pl f c)) + 1
  omega
def kcR (f : Nat → Nat) (n c : Nat) : Option Nat := if pl f c < n ∧ isL (f (pl f c)) then dgF f n (pl f c + 1) (wd (f (pl f c))) else some (pl f c)
def rdR (f : Nat → Nat) (n : Nat) : Nat → Nat → Nat ⊕ Nat
  | 0, _ => .inl 0
  | m + 1, c => match kcR f n c with
    | some q => .inl q
    | none => if n ≤ eC f c then .inr (c + 1) else if c + 1 = 12 ∨ ¬ f (eC f c) = 59 then .inl (eC f c) else rdR f n m (c + 1)
theorem kcR_in {f : Nat → Nat} {n c : Nat} (h : kcR f n c = none) : pl f c < n ∧ isL (f (pl f c)) ∧ dgF f n (pl f c + 1) (wd (f (pl f c))) = none := by
  unfold kcR at h
  split at h
  · rename_i g
    exact ⟨g.1, g.2, h⟩
  · cases h
theorem kcR_eC {f : Nat → Nat} {n c : Nat} (h : kcR f n c = none) : eC f c ≤ n := by
  obtain ⟨h1, h2, h3⟩ := kcR_in h
  have hw := wd_p (f (pl f c))
  have := (dgF_in h3 (wd (f (pl f c)) - 1) (by omega)).1
  unfold eC
  omega
theorem kcR_lt {f : Nat → Nat} {n c q : Nat} (hp : pl f c ≤ n) (h : kcR f n c = some q) : q ≤ n := by
  unfold kcR at h
  split at h
  · rename_i g
    exact dgF_lt (by omega) h
  · cases h
    exact hp
theorem rdR_lt {f : Nat → Nat} {n : Nat} : ∀ (m c : Nat), pl f c ≤ n → ∀ q, rdR f n m c = .inl q → q ≤ n
  | 0, c, _, q, h => by cases h; omega
  | m + 1, c, hp, q, h => by
    unfold rdR at h
    cases hc : kcR f n c with
    | some z =>
      rw [hc] at h
      cases h
      exact kcR_lt hp hc
    | none =>
      have := kcR_eC hc
      rw [hc] at h
      dsimp only at h
      split at h
      · cases h
      · split at h
        · cases h; exact this
        · exact rdR_lt m (c + 1) (by rw [pl_s]; omega) q h
theorem rdR_ok {f : Nat → Nat} {n : Nat} : ∀ (m c : Nat), c + m = 12 → ∀ N, rdR f n m c = .inr N → c < N ∧ N ≤ 12 ∧ n ≤ pl f N ∧ ∀ j, c ≤ j → j < N → kcR f n j = none
  | 0, c, _, N, h => by cases h
  | m + 1, c, hm, N, h => by
    unfold rdR at h
    cases hc : kcR f n c with
    | some z =>
      rw [hc] at h
      cases h
    | none =>
      rw [hc] at h
      dsimp only at h
      split at h
      · cases h
        rename_i g
        refine ⟨by omega, by omega, by rw [pl_s]; omega, fun j h1 h2 => ?_⟩
        rw [show j = c by omega]
        exact hc
      · split at h
        · cases h
        · obtain ⟨a1, a2, a3, a4⟩ := rdR_ok m (c + 1) (by omega) N h
          refine ⟨by omega, a2, a3, fun j h1 h2 => ?_⟩
          by_cases e : j = c
          · subst e; exact hc
          · exact a4 j (by omega) h2
/-- what clauses say -/
def dvN (f : Nat → Nat) (q : Nat) : Nat → Nat
  | 0 => 0
  | i + 1 => 10 * dvN f q i + (f (q + i) - 48)
def num (f : Nat → Nat) (c k : Nat) : Nat := dvN f (pl f c + 1 + sm (fg (f (pl f c))) k) (fg (f (pl f c)) k)
def doJ (f : Nat → Nat) (x : sLat) (c : Nat) : Int32 × sLat :=
  if f (pl f c) = 115 then x.sSize (nI (num f c 0)) (nI (num f c 1)) else if f (pl f c) = 109 then x.sMark (nI (num f c 0)) (nI (num f c 1)) else if f (pl f c) = 102 then x.sFill (nI (num f c 0)) (nI (num f c 1)) (nI (num f c 2)) else if f (pl f c) = 112 then x.sTurn (nI (num f c 0)) else if f (pl f c) = 110 then x.sSet (nI 1) (nI (num f c 0)) else if f (pl f c) = 101 then x.sSet (nI 2) (nI (num f c 0)) else if f (pl f c) = 99 then x.sPrice (nI (num f c 0)) (nI (num f c 1)) else x.sSet (nI 0) (nI (num f c 0))
def exN (f : Nat → Nat) (x : sLat) : Nat → sLat × Nat
  | 0 => (x, 0)
  | k + 1 => ((doJ f (exN f x k).1 k).2, (exN f x k).2 + if (doJ f (exN f x k).1 k).1 < 0 then 0 else 1)
def sLat.aRead (x : sLat) (f : Nat → Nat) (n : Nat) : Int32 × sLat := match rdR f n 12 0 with
  | .inl q => (-10 - nI q, x)
  | .inr N => (nI (exN f x N).2, (exN f x N).1)
theorem sMark_ok {x : sLat} (ok : x.ok) {c v : Int32} : (x.sMark c v).2.ok := by
  have hn := sLat.n36 ok
  unfold sLat.sMark
  split
  · exact ok
  · rename_i j hj
    split
    · exact ok
    · rename_i q hq
      split
      · exact ok
      · have h1 := (ix_s (by omega) hj).1
        have h2 := (ix_s (by decide) hq).1
        exact ok_wmk ok (by omega) h2
theorem sPin_ok {x : sLat} (ok : x.ok) {c v : Int32} : (x.sPin c v).2.ok := by
  have hn := sLat.n36 ok
  unfold sLat.sPin
  split
  · exact ok
  · rename_i j hj
    split
    · exact ok
    · rename_i q hq
      have h1 := (ix_s (by omega) hj).1
      have h2 := (ix_s (by decide) hq).1
      exact ok_wpn ok (by omega) h2
theorem sTurn_ok {x : sLat} (ok : x.ok) {c : Int32} : (x.sTurn c).2.ok := by
  have hn := sLat.n36 ok
  unfold sLat.sTurn
  split
  · exact ok
  · rename_i j hj
    have h1 := (ix_s (by omega) hj).1
    have h2 := ok.2.1 j
    exact ok_wpn ok (by omega) (by omega)
theorem sSet_ok {x : sLat} (ok : x.ok) {c v : Int32} : (x.sSet c v).2.ok := by
  unfold sLat.sSet
  split
  · exact ok
  · split
    · exact ok
    · rename_i q hq
      have h2 := (ix_s (by decide) hq).1
      exact ok_whe ok (by omega)
  · split
    · exact ok
    · rename_i q hq
      have h2 := (ix_s (by decide) hq).1
      exact ok_wne ok (by omega)
  · split
    · exact ok
    · rename_i q hq
      have h2 := (ix_s (by decide) hq).1
      exact ok_wed ok (by omega)
theorem sPrice_ok {x : sLat} (ok : x.ok) {c v : Int32} : (x.sPrice c v).2.ok := by
  unfold sLat.sPrice
  split
  · exact ok
  · rename_i j hj
    have h1 := (ix_s (by decide) hj).1
    split
    · exact ok
    · rename_i q hq
      have h2 := rg_s (by split <;> decide) (by split <;> decide) hq
      exact ok_wpr ok (by omega) (Nat.le_trans h2.2.1 (by split <;> omega))
theorem sSize_ok {x : sLat} (ok : x.ok) {c v : Int32} : (x.sSize c v).2.ok := by
  unfold sLat.sSize
  split
  · exact ok
  · rename_i j hj
    have h1 := rg_s (by decide) (by decide) hj
    split
    · exact ok
    · rename_i q hq
      have h2 := rg_s (by decide) (by decide) hq
      exact ok_wsz ok ⟨h1.1, h1.2.1⟩ ⟨h2.1, h2.2.1⟩
theorem sFill_ok {x : sLat} (ok : x.ok) {w u v : Int32} : (x.sFill w u v).2.ok := by
  have hn := sLat.n36 ok
  unfold sLat.sFill
  split
  · exact ok
  · split
    · exact ok
    · rename_i c hc
      have hc := (ix_s (by omega) hc).1
      split
      · exact ok
      · rename_i q hq
        have h2 := (ix_s (by decide) hq).1
        split
        · exact ok
        · refine ⟨fun i => ?_, ok.2.1, ok.2.2.1, ok.2.2.2.1, ok.2.2.2.2.1, ok.2.2.2.2.2.1, ok.2.2.2.2.2.2.1, ok.2.2.2.2.2.2.2.1, ok.2.2.2.2.2.2.2.2.1, fun i hi => ?_, ok.2.2.2.2.2.2.2.2.2.2⟩
          · show x.fbF _ _ _ _ i < 8
            unfold sLat.fbF
            split
            · exact h2
            · exact ok.1 i
          · show x.fbF _ _ _ _ i = 0
            unfold sLat.fbF
            rw [if_neg (by omega)]
            exact ok.2.2.2.2.2.2.2.2.2.1 i hi
theorem doJ_ok {f : Nat → Nat} {x : sLat} (ok : x.ok) {c : Nat} : (doJ f x c).2.ok := by
  unfold doJ
  split
  · exact sSize_ok ok
  split
  · exact sMark_ok ok
  split
  · exact sFill_ok ok
  split
  · exact sTurn_ok ok
  split
  · exact sSet_ok ok
  split
  · exact sSet_ok ok
  split
  · exact sPrice_ok ok
  · exact sSet_ok ok
theorem exN_ok {f : Nat → Nat} {x : sLat} (ok : x.ok) : ∀ k, (exN f x k).1.ok
  | 0 => ok
  | k + 1 => doJ_ok (exN_ok ok k)
theorem exN_le {f : Nat → Nat} {x : sLat} : ∀ k, (exN f x k).2 ≤ k
  | 0 => Nat.le_refl _
  | k + 1 => by
    have := exN_le (f := f) (x := x) k
    show (exN f x k).2 + (if (doJ f (exN f x k).1 k).1 < 0 then 0 else 1) ≤ k + 1
    split <;> omega
theorem aRead_ok {x : sLat} (ok : x.ok) {f : Nat → Nat} {n : Nat} : (x.aRead f n).2.ok := by
  unfold sLat.aRead
  split
  · exact ok
  · exact exN_ok ok _
section TXT
variable {AH : xH} {m : Nat} {s : sMod} {x : sLat} {r : sRow}
/-- figuresOf(letter, k) -/
theorem d_fig {L j : Nat} (hL : L < 128) (hj : j < 3) {Q : Option Value → xH → Prop} (k : Q (some (.int (nI (fg L j)))) AH) : XC MX7_figuresOf [.int (nI L), .int (nI j)] AH Q := by
  refine XC.ofR (L := [some (.int (nI L)), some (.int (nI j))]) KX7_figuresOf (by decide +kernel) (by first | decide | exact Nat.le_of_ble_eq_true rfl) rfl ?_
  by_cases hl : isL L
  · rcases hl with rfl | rfl | rfl | rfl | rfl | rfl | rfl | rfl <;> rcases (show j = 0 ∨ j = 1 ∨ j = 2 by omega) with rfl | rfl | rfl <;> simp only [eX7_figuresOf_0, eX7_figuresOf_1, eX7_figuresOf_84, eX7_figuresOf_85, eX7_figuresOf_86, eX7_figuresOf_89, eX7_figuresOf_90, eX7_figuresOf_93, eX7_figuresOf_94, eX7_figuresOf_95, eX7_figuresOf_96, eX7_figuresOf_99, eX7_figuresOf_100, eX7_figuresOf_103, eX7_figuresOf_104, eX7_figuresOf_105, eX7_figuresOf_108, eX7_figuresOf_109, eX7_figuresOf_112, eX7_figuresOf_113, eX7_figuresOf_114, eX7_figuresOf_115, eX7_figuresOf_116, eX7_figuresOf_119, eX7_figuresOf_120, eX7_figuresOf_123, eX7_figuresOf_124, eX7_figuresOf_125, eX7_figuresOf_126, eX7_figuresOf_129, eX7_figuresOf_130, eX7_figuresOf_133, eX7_figuresOf_134, eX7_figuresOf_135, eX7_figuresOf_136, eX7_figuresOf_139, eX7_figuresOf_140, eX7_figuresOf_143, eX7_figuresOf_144, eX7_figuresOf_145, eX7_figuresOf_146, o_const_e, o_goto_e, o_icmp_e, o_if_e, o_iload_0, o_iload_1, o_iret_e, o_sw_e, xsw_0, xsw_1, z_nI, n1, n2, n3, n4, n5, n6, n7, n8, n9, n10, n11, n12, eq_nI, Nat.reducePow, Nat.reduceLT, Nat.reduceEqDiff, reduceCtorEq, Nat.succ_ne_zero, Nat.one_ne_zero, eq_self, not_true_eq_false, not_false_eq_true, true_implies, false_implies, and_true, true_and, implies_true, forall_const, n99, n101, n102, n104, n109, n110, n112, n115, le_nI, Nat.reduceLeDiff] <;> exact k
  · rw [fg_n hl] at k
    obtain ⟨z0, z1, z2, z3, z4, z5, z6, z7⟩ : ¬ L = 99 ∧ ¬ L = 101 ∧ ¬ L = 102 ∧ ¬ L = 104 ∧ ¬ L = 109 ∧ ¬ L = 110 ∧ ¬ L = 112 ∧ ¬ L = 115 := by omega
    simp only [eX7_figuresOf_0, eX7_figuresOf_1, eX7_figuresOf_84, eX7_figuresOf_85, eX7_figuresOf_86, eX7_figuresOf_89, eX7_figuresOf_90, eX7_figuresOf_93, eX7_figuresOf_94, eX7_figuresOf_95, eX7_figuresOf_96, eX7_figuresOf_99, eX7_figuresOf_100, eX7_figuresOf_103, eX7_figuresOf_104, eX7_figuresOf_105, eX7_figuresOf_108, eX7_figuresOf_109, eX7_figuresOf_112, eX7_figuresOf_113, eX7_figuresOf_114, eX7_figuresOf_115, eX7_figuresOf_116, eX7_figuresOf_119, eX7_figuresOf_120, eX7_figuresOf_123, eX7_figuresOf_124, eX7_figuresOf_125, eX7_figuresOf_126, eX7_figuresOf_129, eX7_figuresOf_130, eX7_figuresOf_133, eX7_figuresOf_134, eX7_figuresOf_135, eX7_figuresOf_136, eX7_figuresOf_139, eX7_figuresOf_140, eX7_figuresOf_143, eX7_figuresOf_144, eX7_figuresOf_145, eX7_figuresOf_146, o_const_e, o_goto_e, o_icmp_e, o_if_e, o_iload_0, o_iload_1, o_iret_e, o_sw_e, xsw_0, xsw_1, n99, n101, n102, n104, n109, n110, n112, n115, eq_nI (a := L) (b := 99) (by omega) (by omega), eq_nI (a := L) (b := 101) (by omega) (by omega), eq_nI (a := L) (b := 102) (by omega) (by omega), eq_nI (a := L) (b := 104) (by omega) (by omega), eq_nI (a := L) (b := 109) (by omega) (by omega), eq_nI (a := L) (b := 110) (by omega) (by omega), eq_nI (a := L) (b := 112) (by omega) (by omega), eq_nI (a := L) (b := 115) (by omega) (by omega), z0, z1, z2, z3, z4, z5, z6, z7, not_true_eq_false, not_false_eq_true, true_implies, false_implies, and_true, true_and, implies_true, forall_const, ↓reduceIte, Bool.false_eq_true, i10, i10n]
    exact k
theorem va_up_sf {f : Nat → Nat} {c : Nat} : va_up f c (f c) = f := by
  funext i
  unfold va_up
  split
  · rename_i e; rw [e]
  · rfl
theorem fbF_skip {x : sLat} {a c v e e2 : Nat} (he : e ≤ e2) (h : ∀ i, e ≤ i → i < e2 → ¬ (a % x.wi ≤ i % x.wi ∧ i % x.wi ≤ c % x.wi)) : x.fbF a c v e2 = x.fbF a c v e := by
  funext i
  unfold sLat.fbF
  by_cases g : a ≤ i ∧ i < e ∧ a % x.wi ≤ i % x.wi ∧ i % x.wi ≤ c % x.wi ∧ x.pn i = 0
  · rw [if_pos g, if_pos (by omega)]
  · rw [if_neg g, if_neg (fun z => by
      by_cases g2 : i < e
      · exact g ⟨z.1, g2, z.2.2⟩
      · exact h i (by omega) z.2.1 ⟨z.2.2.1, z.2.2.2.1⟩)]
theorem mod_at {w q t : Nat} (h : t < w) : (w * q + t) % w = t := by
  rw [Nat.mul_add_mod, Nat.mod_eq_of_lt h]
/-- fills: the inner loop -/
theorem k_fil1 (h : MoL AH m s x r) (ok : x.ok) {a c v q : Nat} (ha : a < x.n) (hc : c < x.n) (hv : v < 8) (hq1 : a / x.wi ≤ q) (hq2 : q ≤ c / x.wi) {Q : xQ} (k : ∀ w7 : Option Value, XR TX7_fills 141 [some (.ref m), some (.int (nI a)), some (.int (nI c)), some (.int (nI v)), some (.int (nI x.wi)), some (.int (nI q)), some (.int (nI (c % x.wi + 1))), w7] [] (modP AH m (s.wnw (nF (x.amk (x.fbF a c v (x.wi * q + (c % x.wi + 1)))) r))) (0, 0) Q) : ∀ (n j : Nat), j + n = c % x.wi + 1 → a % x.wi ≤ j → ∀ w7 : Option Value,
    XR TX7_fills 78 [some (.ref m), some (.int (nI a)), some (.int (nI c)), some (.int (nI v)), some (.int (nI x.wi)), some (.int (nI q)), some (.int (nI j)), w7] [] (modP AH m (s.wnw (nF (x.amk (x.fbF a c v (x.wi * q + j))) r))) (0, 0) Q := by
  have hn := sLat.n36 ok
  have hw := ok.2.2.2.1
  have z : ¬ x.wi = 0 := by omega
  have l1 : a % x.wi < x.wi := Nat.mod_lt _ (by omega)
  have l2 : c % x.wi < x.wi := Nat.mod_lt _ (by omega)
  have d2 : c / x.wi ≤ c := Nat.div_le_self _ _
  intro n
  induction n with
  | zero =>
    intro j hj haj w7
    rw [eX7_fills_78]
    simp only [eX7_fills_0, eX7_fills_1, eX7_fills_2, eX7_fills_5, eX7_fills_8, eX7_fills_9, eX7_fills_10, eX7_fills_13, eX7_fills_16, eX7_fills_17, eX7_fills_20, eX7_fills_23, eX7_fills_24, eX7_fills_25, eX7_fills_26, eX7_fills_29, eX7_fills_30, eX7_fills_31, eX7_fills_33, eX7_fills_34, eX7_fills_36, eX7_fills_37, eX7_fills_38, eX7_fills_40, eX7_fills_41, eX7_fills_44, eX7_fills_45, eX7_fills_47, eX7_fills_48, eX7_fills_49, eX7_fills_51, eX7_fills_52, eX7_fills_55, eX7_fills_56, eX7_fills_57, eX7_fills_58, eX7_fills_60, eX7_fills_61, eX7_fills_63, eX7_fills_65, eX7_fills_66, eX7_fills_68, eX7_fills_69, eX7_fills_72, eX7_fills_73, eX7_fills_75, eX7_fills_76, eX7_fills_80, eX7_fills_81, eX7_fills_83, eX7_fills_84, eX7_fills_87, eX7_fills_89, eX7_fills_91, eX7_fills_92, eX7_fills_94, eX7_fills_95, eX7_fills_97, eX7_fills_98, eX7_fills_101, eX7_fills_103, eX7_fills_105, eX7_fills_106, eX7_fills_107, eX7_fills_110, eX7_fills_112, eX7_fills_114, eX7_fills_115, eX7_fills_116, eX7_fills_117, eX7_fills_120, eX7_fills_121, eX7_fills_124, eX7_fills_126, eX7_fills_128, eX7_fills_129, eX7_fills_130, eX7_fills_133, eX7_fills_134, eX7_fills_135, eX7_fills_138, eX7_fills_144, eX7_fills_147, eX7_fills_148, Nat.add_zero, Nat.reduceAdd, Nat.reduceLeDiff, Nat.zero_le, and_true, o_aload_0r, o_callS_1, o_callV_1, o_const_e, o_getf_e, o_goto_e, o_iald_e, o_iald_f, o_iast_e, o_icmp_e, o_idiv_e, o_if_e, o_ii_e, o_iinc_5, o_iinc_6, o_iload_1, o_iload_2, o_iload_3, o_iload_4, o_iload_5, o_iload_6, o_iload_7, o_irem_e, o_ist_4, o_ist_5, o_ist_6, o_ist_7, o_zret_0, o_zret_1, tl_n, tl_s, true_and, xnlv_i, xnlv_n, xnlv_r, xwt_0, xwt_f, xwt_i, xwt_l, xwt_r, eq0_nI (a := x.wi) (by omega), z, not_true_eq_false, not_false_eq_true, true_implies, false_implies, and_true, true_and, implies_true, forall_const, ↓reduceIte, Bool.false_eq_true, i10, i10n, pk_div (a := c) (d := x.wi) (by omega) (by omega) (by omega), rem2, lt_nI (a := c % x.wi) (b := j) (by omega) (by omega)]
    refine ⟨fun _ => ?_, fun g => by omega⟩
    rw [show j = c % x.wi + 1 by omega]
    exact k w7
  | succ n ih =>
    intro j hj haj w7
    have hA : MoL (modP AH m (s.wnw (nF (x.amk (x.fbF a c v (x.wi * q + j))) r))) m (s.wnw (nF (x.amk (x.fbF a c v (x.wi * q + j))) r)) (x.amk (x.fbF a c v (x.wi * q + j))) r := h.put _ _
    have hcell : x.wi * q + j ≤ c := by
      have e2 := Nat.div_add_mod c x.wi
      have := Nat.mul_le_mul_left x.wi hq2
      omega
    have hcell2 : a ≤ x.wi * q + j := by
      have e2 := Nat.div_add_mod a x.wi
      have := Nat.mul_le_mul_left x.wi hq1
      omega
    have hmod : (x.wi * q + j) % x.wi = j := mod_at (by omega)
    have this := ih (j + 1) (by omega) (by omega)
    rw [show x.wi * q + (j + 1) = x.wi * q + j + 1 by omega, fbF_s hcell2, hmod] at this
    have hp := ok.2.1 (x.wi * q + j)
    have ep : (x.amk (x.fbF a c v (x.wi * q + j))).pn = x.pn := rfl
    have es : (x.amk (x.fbF a c v (x.wi * q + j))).wmk (x.wi * q + j) ((x.amk (x.fbF a c v (x.wi * q + j))).mk (x.wi * q + j)) = x.amk (x.fbF a c v (x.wi * q + j)) := by
      show x.amk (va_up (x.fbF a c v (x.wi * q + j)) (x.wi * q + j) (x.fbF a c v (x.wi * q + j) (x.wi * q + j))) = _
      rw [va_up_sf]
    rw [eX7_fills_78]
    simp only [eX7_fills_0, eX7_fills_1, eX7_fills_2, eX7_fills_5, eX7_fills_8, eX7_fills_9, eX7_fills_10, eX7_fills_13, eX7_fills_16, eX7_fills_17, eX7_fills_20, eX7_fills_23, eX7_fills_24, eX7_fills_25, eX7_fills_26, eX7_fills_29, eX7_fills_30, eX7_fills_31, eX7_fills_33, eX7_fills_34, eX7_fills_36, eX7_fills_37, eX7_fills_38, eX7_fills_40, eX7_fills_41, eX7_fills_44, eX7_fills_45, eX7_fills_47, eX7_fills_48, eX7_fills_49, eX7_fills_51, eX7_fills_52, eX7_fills_55, eX7_fills_56, eX7_fills_57, eX7_fills_58, eX7_fills_60, eX7_fills_61, eX7_fills_63, eX7_fills_65, eX7_fills_66, eX7_fills_68, eX7_fills_69, eX7_fills_72, eX7_fills_73, eX7_fills_75, eX7_fills_76, eX7_fills_80, eX7_fills_81, eX7_fills_83, eX7_fills_84, eX7_fills_87, eX7_fills_89, eX7_fills_91, eX7_fills_92, eX7_fills_94, eX7_fills_95, eX7_fills_97, eX7_fills_98, eX7_fills_101, eX7_fills_103, eX7_fills_105, eX7_fills_106, eX7_fills_107, eX7_fills_110, eX7_fills_112, eX7_fills_114, eX7_fills_115, eX7_fills_116, eX7_fills_117, eX7_fills_120, eX7_fills_121, eX7_fills_124, eX7_fills_126, eX7_fills_128, eX7_fills_129, eX7_fills_130, eX7_fills_133, eX7_fills_134, eX7_fills_135, eX7_fills_138, eX7_fills_144, eX7_fills_147, eX7_fills_148, Nat.add_zero, Nat.reduceAdd, Nat.reduceLeDiff, Nat.zero_le, and_true, o_aload_0r, o_callS_1, o_callV_1, o_const_e, o_getf_e, o_goto_e, o_iald_e, o_iald_f, o_iast_e, o_icmp_e, o_idiv_e, o_if_e, o_ii_e, o_iinc_5, o_iinc_6, o_iload_1, o_iload_2, o_iload_3, o_iload_4, o_iload_5, o_iload_6, o_iload_7, o_irem_e, o_ist_4, o_ist_5, o_ist_6, o_ist_7, o_zret_0, o_zret_1, tl_n, tl_s, true_and, xnlv_i, xnlv_n, xnlv_r, xwt_0, xwt_f, xwt_i, xwt_l, xwt_r, eq0_nI (a := x.wi) (by omega), z, not_true_eq_false, not_false_eq_true, true_implies, false_implies, and_true, true_and, implies_true, forall_const, ↓reduceIte, Bool.false_eq_true, i10, i10n, pk_div (a := c) (d := x.wi) (by omega) (by omega) (by omega), rem2, lt_nI (a := c % x.wi) (b := j) (by omega) (by omega), hA.1.cls, hA.1.g0, hA.1.g1, hA.1.g2, hA.1.g3, hA.1.g4, hA.1.g5, hA.1.g6, hA.1.g7, hA.1.g8, hA.1.g9, hA.1.g10, hA.1.g11, hA.1.g12, hA.1.g13, hA.1.g14, hA.1.g15, hA.1.g16, hA.1.g17, hA.1.g18, hA.1.g19, hA.i0, hA.i1, hA.i2, hA.i3, hA.i4, hA.i5, hA.i6, hA.i7, hA.i8, hA.i9, hA.i10, hA.j0, hA.j1, hA.j2, hA.j3, hA.j4, hA.j5, hA.j6, hA.j7, hA.j8, hA.j9, hA.j10, n11, n47, pk_mul, nI_add, hA.rp (c := x.wi * q + j) (by omega), hA.rm (c := x.wi * q + j) (by omega), ep, n1, eq_nI (a := x.pn (x.wi * q + j)) (b := 1) (by omega) (by omega), hA.wm (c := x.wi * q + j) (by omega), modP_nw h.1.lt, es, rem3]
    refine ⟨fun g => by omega, fun _ => ⟨fun g => ?_, fun g => ?_⟩⟩
    · rw [if_pos ⟨⟨by omega, by omega⟩, by omega⟩] at this
      exact this _
    · rw [if_neg (fun z => by omega)] at this
      exact this _
theorem k_fil2 (h : MoL AH m s x r) (ok : x.ok) {a c v : Nat} (ha : a < x.n) (hc : c < x.n) (hv : v < 8) (hac : a % x.wi ≤ c % x.wi) {Q : xQ} (k : Q (some (.int 1)) (modP AH m (s.wnw (nF (x.amk (x.fbF a c v (c + 1))) r))) (0, 0)) : ∀ (n q : Nat), q + n = c / x.wi + 1 → a / x.wi ≤ q → ∀ w6 w7 : Option Value,
    XR TX7_fills 63 [some (.ref m), some (.int (nI a)), some (.int (nI c)), some (.int (nI v)), some (.int (nI x.wi)), some (.int (nI q)), w6, w7] [] (modP AH m (s.wnw (nF (x.amk (x.fbF a c v (x.wi * q + a % x.wi))) r))) (0, 0) Q := by
  have hn := sLat.n36 ok
  have hw := ok.2.2.2.1
  have z : ¬ x.wi = 0 := by omega
  have l1 : a % x.wi < x.wi := Nat.mod_lt _ (by omega)
  have l2 : c % x.wi < x.wi := Nat.mod_lt _ (by omega)
  have d2 : c / x.wi ≤ c := Nat.div_le_self _ _
  have e2 := Nat.div_add_mod c x.wi
  intro n
  induction n with
  | zero =>
    intro q hq haq w6 w7
    rw [eX7_fills_63]
    simp only [eX7_fills_0, eX7_fills_1, eX7_fills_2, eX7_fills_5, eX7_fills_8, eX7_fills_9, eX7_fills_10, eX7_fills_13, eX7_fills_16, eX7_fills_17, eX7_fills_20, eX7_fills_23, eX7_fills_24, eX7_fills_25, eX7_fills_26, eX7_fills_29, eX7_fills_30, eX7_fills_31, eX7_fills_33, eX7_fills_34, eX7_fills_36, eX7_fills_37, eX7_fills_38, eX7_fills_40, eX7_fills_41, eX7_fills_44, eX7_fills_45, eX7_fills_47, eX7_fills_48, eX7_fills_49, eX7_fills_51, eX7_fills_52, eX7_fills_55, eX7_fills_56, eX7_fills_57, eX7_fills_58, eX7_fills_60, eX7_fills_61, eX7_fills_65, eX7_fills_66, eX7_fills_68, eX7_fills_69, eX7_fills_72, eX7_fills_73, eX7_fills_75, eX7_fills_76, eX7_fills_80, eX7_fills_81, eX7_fills_83, eX7_fills_84, eX7_fills_87, eX7_fills_89, eX7_fills_91, eX7_fills_92, eX7_fills_94, eX7_fills_95, eX7_fills_97, eX7_fills_98, eX7_fills_101, eX7_fills_103, eX7_fills_105, eX7_fills_106, eX7_fills_107, eX7_fills_110, eX7_fills_112, eX7_fills_114, eX7_fills_115, eX7_fills_116, eX7_fills_117, eX7_fills_120, eX7_fills_121, eX7_fills_124, eX7_fills_126, eX7_fills_128, eX7_fills_129, eX7_fills_130, eX7_fills_133, eX7_fills_134, eX7_fills_135, eX7_fills_138, eX7_fills_141, eX7_fills_144, eX7_fills_147, eX7_fills_148, Nat.add_zero, Nat.reduceAdd, Nat.reduceLeDiff, Nat.zero_le, and_true, o_aload_0r, o_callS_1, o_callV_1, o_const_e, o_getf_e, o_goto_e, o_iald_e, o_iald_f, o_iast_e, o_icmp_e, o_idiv_e, o_if_e, o_ii_e, o_iinc_5, o_iinc_6, o_iload_1, o_iload_2, o_iload_3, o_iload_4, o_iload_5, o_iload_6, o_iload_7, o_irem_e, o_ist_4, o_ist_5, o_ist_6, o_ist_7, o_zret_0, o_zret_1, tl_n, tl_s, true_and, xnlv_i, xnlv_n, xnlv_r, xwt_0, xwt_f, xwt_i, xwt_l, xwt_r, eq0_nI (a := x.wi) (by omega), z, not_true_eq_false, not_false_eq_true, true_implies, false_implies, and_true, true_and, implies_true, forall_const, ↓reduceIte, Bool.false_eq_true, i10, i10n, pk_div (a := c) (d := x.wi) (by omega) (by omega) (by omega), lt_nI (a := c / x.wi) (b := q) (by omega) (by omega)]
    refine ⟨fun _ => ?_, fun g => by omega⟩
    rw [fbF_skip (e := c + 1) (by
      rw [show q = c / x.wi + 1 by omega, Nat.mul_add]
      omega) (fun i h1 h2 g => by
      rw [show q = c / x.wi + 1 by omega, Nat.mul_add, Nat.mul_one] at h2
      by_cases gi : i < x.wi * (c / x.wi) + x.wi
      · have : i % x.wi = i - x.wi * (c / x.wi) := by
          have := mod_at (w := x.wi) (q := c / x.wi) (t := i - x.wi * (c / x.wi)) (by omega)
          rw [show x.wi * (c / x.wi) + (i - x.wi * (c / x.wi)) = i by omega] at this
          exact this
        omega
      · have : i % x.wi = i - (x.wi * (c / x.wi) + x.wi) := by
          have := mod_at (w := x.wi) (q := c / x.wi + 1) (t := i - (x.wi * (c / x.wi) + x.wi)) (by omega)
          rw [Nat.mul_add, Nat.mul_one, show x.wi * (c / x.wi) + x.wi + (i - (x.wi * (c / x.wi) + x.wi)) = i by omega] at this
          exact this
        omega)]
    exact k
  | succ n ih =>
    intro q hq haq w6 w7
    rw [eX7_fills_63]
    have d1 : a / x.wi ≤ a := Nat.div_le_self _ _
    simp only [eX7_fills_0, eX7_fills_1, eX7_fills_2, eX7_fills_5, eX7_fills_8, eX7_fills_9, eX7_fills_10, eX7_fills_13, eX7_fills_16, eX7_fills_17, eX7_fills_20, eX7_fills_23, eX7_fills_24, eX7_fills_25, eX7_fills_26, eX7_fills_29, eX7_fills_30, eX7_fills_31, eX7_fills_33, eX7_fills_34, eX7_fills_36, eX7_fills_37, eX7_fills_38, eX7_fills_40, eX7_fills_41, eX7_fills_44, eX7_fills_45, eX7_fills_47, eX7_fills_48, eX7_fills_49, eX7_fills_51, eX7_fills_52, eX7_fills_55, eX7_fills_56, eX7_fills_57, eX7_fills_58, eX7_fills_60, eX7_fills_61, eX7_fills_65, eX7_fills_66, eX7_fills_68, eX7_fills_69, eX7_fills_72, eX7_fills_73, eX7_fills_75, eX7_fills_76, eX7_fills_80, eX7_fills_81, eX7_fills_83, eX7_fills_84, eX7_fills_87, eX7_fills_89, eX7_fills_91, eX7_fills_92, eX7_fills_94, eX7_fills_95, eX7_fills_97, eX7_fills_98, eX7_fills_101, eX7_fills_103, eX7_fills_105, eX7_fills_106, eX7_fills_107, eX7_fills_110, eX7_fills_112, eX7_fills_114, eX7_fills_115, eX7_fills_116, eX7_fills_117, eX7_fills_120, eX7_fills_121, eX7_fills_124, eX7_fills_126, eX7_fills_128, eX7_fills_129, eX7_fills_130, eX7_fills_133, eX7_fills_134, eX7_fills_135, eX7_fills_138, eX7_fills_141, eX7_fills_144, eX7_fills_147, eX7_fills_148, Nat.add_zero, Nat.reduceAdd, Nat.reduceLeDiff, Nat.zero_le, and_true, o_aload_0r, o_callS_1, o_callV_1, o_const_e, o_getf_e, o_goto_e, o_iald_e, o_iald_f, o_iast_e, o_icmp_e, o_idiv_e, o_if_e, o_ii_e, o_iinc_5, o_iinc_6, o_iload_1, o_iload_2, o_iload_3, o_iload_4, o_iload_5, o_iload_6, o_iload_7, o_irem_e, o_ist_4, o_ist_5, o_ist_6, o_ist_7, o_zret_0, o_zret_1, tl_n, tl_s, true_and, xnlv_i, xnlv_n, xnlv_r, xwt_0, xwt_f, xwt_i, xwt_l, xwt_r, eq0_nI (a := x.wi) (by omega), z, not_true_eq_false, not_false_eq_true, true_implies, false_implies, and_true, true_and, implies_true, forall_const, ↓reduceIte, Bool.false_eq_true, i10, i10n, pk_div (a := c) (d := x.wi) (by omega) (by omega) (by omega), pk_div (a := a) (d := x.wi) (by omega) (by omega) (by omega), lt_nI (a := c / x.wi) (b := q) (by omega) (by omega), rem2]
    refine ⟨fun g => by omega, fun _ => ?_⟩
    refine k_fil1 h ok ha hc hv haq (by omega) (fun w7 => ?_) (c % x.wi + 1 - a % x.wi) (a % x.wi) (by omega) (Nat.le_refl _) w7
    simp only [eX7_fills_0, eX7_fills_1, eX7_fills_2, eX7_fills_5, eX7_fills_8, eX7_fills_9, eX7_fills_10, eX7_fills_13, eX7_fills_16, eX7_fills_17, eX7_fills_20, eX7_fills_23, eX7_fills_24, eX7_fills_25, eX7_fills_26, eX7_fills_29, eX7_fills_30, eX7_fills_31, eX7_fills_33, eX7_fills_34, eX7_fills_36, eX7_fills_37, eX7_fills_38, eX7_fills_40, eX7_fills_41, eX7_fills_44, eX7_fills_45, eX7_fills_47, eX7_fills_48, eX7_fills_49, eX7_fills_51, eX7_fills_52, eX7_fills_55, eX7_fills_56, eX7_fills_57, eX7_fills_58, eX7_fills_60, eX7_fills_61, eX7_fills_65, eX7_fills_66, eX7_fills_68, eX7_fills_69, eX7_fills_72, eX7_fills_73, eX7_fills_75, eX7_fills_76, eX7_fills_80, eX7_fills_81, eX7_fills_83, eX7_fills_84, eX7_fills_87, eX7_fills_89, eX7_fills_91, eX7_fills_92, eX7_fills_94, eX7_fills_95, eX7_fills_97, eX7_fills_98, eX7_fills_101, eX7_fills_103, eX7_fills_105, eX7_fills_106, eX7_fills_107, eX7_fills_110, eX7_fills_112, eX7_fills_114, eX7_fills_115, eX7_fills_116, eX7_fills_117, eX7_fills_120, eX7_fills_121, eX7_fills_124, eX7_fills_126, eX7_fills_128, eX7_fills_129, eX7_fills_130, eX7_fills_133, eX7_fills_134, eX7_fills_135, eX7_fills_138, eX7_fills_141, eX7_fills_144, eX7_fills_147, eX7_fills_148, Nat.add_zero, Nat.reduceAdd, Nat.reduceLeDiff, Nat.zero_le, and_true, o_aload_0r, o_callS_1, o_callV_1, o_const_e, o_getf_e, o_goto_e, o_iald_e, o_iald_f, o_iast_e, o_icmp_e, o_idiv_e, o_if_e, o_ii_e, o_iinc_5, o_iinc_6, o_iload_1, o_iload_2, o_iload_3, o_iload_4, o_iload_5, o_iload_6, o_iload_7, o_irem_e, o_ist_4, o_ist_5, o_ist_6, o_ist_7, o_zret_0, o_zret_1, tl_n, tl_s, true_and, xnlv_i, xnlv_n, xnlv_r, xwt_0, xwt_f, xwt_i, xwt_l, xwt_r, n1, nI_add]
    have := ih (q + 1) (by omega) (by omega) (some (.int (nI (c % x.wi + 1)))) w7
    rw [fbF_skip (e := x.wi * q + (c % x.wi + 1)) (by rw [Nat.mul_add]; omega) (fun i h1 h2 g => by
      rw [Nat.mul_add, Nat.mul_one] at h2
      by_cases gi : i < x.wi * q + x.wi
      · have : i % x.wi = i - x.wi * q := by
          have := mod_at (w := x.wi) (q := q) (t := i - x.wi * q) (by omega)
          rw [show x.wi * q + (i - x.wi * q) = i by omega] at this
          exact this
        omega
      · have : i % x.wi = i - (x.wi * q + x.wi) := by
          have := mod_at (w := x.wi) (q := q + 1) (t := i - (x.wi * q + x.wi)) (by omega)
          rw [Nat.mul_add, Nat.mul_one, show x.wi * q + x.wi + (i - (x.wi * q + x.wi)) = i by omega] at this
          exact this
        omega)] at this
    exact this
/-- fills(a, c, v) -/
theorem d_fills (h : MoL AH m s x r) (ok : x.ok) {w u v : Int32} {Q : Option Value → xH → Prop} (k : Q (some (.int (if (x.sFill w u v).1 < 0 then 0 else 1))) (modP AH m (s.wnw (nF (x.sFill w u v).2 r)))) : XC MX7_fills [.ref m, .int w, .int u, .int v] AH Q := by
  have hn := sLat.n36 ok
  have hw := ok.2.2.2.1
  have z : ¬ x.wi = 0 := by omega
  have l1 : ((-1 : Int32) < 0) = True := eq_true (by decide)
  have l2 : ((-2 : Int32) < 0) = True := eq_true (by decide)
  have l3 : ((0 : Int32) < 0) = False := eq_false (by decide)
  unfold sLat.sFill at k
  refine XC.ofR (L := [some (.ref m), some (.int w), some (.int u), some (.int v), none, none, none, none]) KX7_fills (by decide +kernel) (by first | decide | exact Nat.le_of_ble_eq_true rfl) rfl ?_
  simp only [eX7_fills_0, eX7_fills_1, eX7_fills_2, eX7_fills_5, eX7_fills_8, eX7_fills_9, eX7_fills_10, eX7_fills_13, eX7_fills_16, eX7_fills_17, eX7_fills_20, eX7_fills_23, eX7_fills_24, eX7_fills_25, eX7_fills_26, eX7_fills_29, eX7_fills_30, eX7_fills_31, eX7_fills_33, eX7_fills_34, eX7_fills_36, eX7_fills_37, eX7_fills_38, eX7_fills_40, eX7_fills_41, eX7_fills_44, eX7_fills_45, eX7_fills_47, eX7_fills_48, eX7_fills_49, eX7_fills_51, eX7_fills_52, eX7_fills_55, eX7_fills_56, eX7_fills_57, eX7_fills_58, eX7_fills_60, eX7_fills_61, eX7_fills_65, eX7_fills_66, eX7_fills_68, eX7_fills_69, eX7_fills_72, eX7_fills_73, eX7_fills_75, eX7_fills_76, eX7_fills_78, eX7_fills_80, eX7_fills_81, eX7_fills_83, eX7_fills_84, eX7_fills_87, eX7_fills_89, eX7_fills_91, eX7_fills_92, eX7_fills_94, eX7_fills_95, eX7_fills_97, eX7_fills_98, eX7_fills_101, eX7_fills_103, eX7_fills_105, eX7_fills_106, eX7_fills_107, eX7_fills_110, eX7_fills_112, eX7_fills_114, eX7_fills_115, eX7_fills_116, eX7_fills_117, eX7_fills_120, eX7_fills_121, eX7_fills_124, eX7_fills_126, eX7_fills_128, eX7_fills_129, eX7_fills_130, eX7_fills_133, eX7_fills_134, eX7_fills_135, eX7_fills_138, eX7_fills_141, eX7_fills_144, eX7_fills_147, eX7_fills_148, Nat.add_zero, Nat.reduceAdd, Nat.reduceLeDiff, Nat.zero_le, and_true, o_aload_0r, o_callS_1, o_callV_1, o_const_e, o_getf_e, o_goto_e, o_iald_e, o_iald_f, o_iast_e, o_icmp_e, o_idiv_e, o_if_e, o_ii_e, o_iinc_5, o_iinc_6, o_iload_1, o_iload_2, o_iload_3, o_iload_4, o_iload_5, o_iload_6, o_iload_7, o_irem_e, o_ist_4, o_ist_5, o_ist_6, o_ist_7, o_zret_0, o_zret_1, tl_n, tl_s, true_and, xnlv_i, xnlv_n, xnlv_r, xwt_0, xwt_f, xwt_i, xwt_l, xwt_r, h.1.cls, h.1.g0, h.1.g1, h.1.g2, h.1.g3, h.1.g4, h.1.g5, h.1.g6, h.1.g7, h.1.g8, h.1.g9, h.1.g10, h.1.g11, h.1.g12, h.1.g13, h.1.g14, h.1.g15, h.1.g16, h.1.g17, h.1.g18, h.1.g19, h.i0, h.i1, h.i2, h.i3, h.i4, h.i5, h.i6, h.i7, h.i8, h.i9, h.i10, h.j0, h.j1, h.j2, h.j3, h.j4, h.j5, h.j6, h.j7, h.j8, h.j9, h.j10]
  refine d_isCell h ok ?_
  cases hj : ix x.n w with
  | none =>
    simp only [hj, l1, ↓reduceIte] at k
    rw [h.self] at k
    simp only [eX7_fills_0, eX7_fills_1, eX7_fills_2, eX7_fills_5, eX7_fills_8, eX7_fills_9, eX7_fills_10, eX7_fills_13, eX7_fills_16, eX7_fills_17, eX7_fills_20, eX7_fills_23, eX7_fills_24, eX7_fills_25, eX7_fills_26, eX7_fills_29, eX7_fills_30, eX7_fills_31, eX7_fills_33, eX7_fills_34, eX7_fills_36, eX7_fills_37, eX7_fills_38, eX7_fills_40, eX7_fills_41, eX7_fills_44, eX7_fills_45, eX7_fills_47, eX7_fills_48, eX7_fills_49, eX7_fills_51, eX7_fills_52, eX7_fills_55, eX7_fills_56, eX7_fills_57, eX7_fills_58, eX7_fills_60, eX7_fills_61, eX7_fills_65, eX7_fills_66, eX7_fills_68, eX7_fills_69, eX7_fills_72, eX7_fills_73, eX7_fills_75, eX7_fills_76, eX7_fills_78, eX7_fills_80, eX7_fills_81, eX7_fills_83, eX7_fills_84, eX7_fills_87, eX7_fills_89, eX7_fills_91, eX7_fills_92, eX7_fills_94, eX7_fills_95, eX7_fills_97, eX7_fills_98, eX7_fills_101, eX7_fills_103, eX7_fills_105, eX7_fills_106, eX7_fills_107, eX7_fills_110, eX7_fills_112, eX7_fills_114, eX7_fills_115, eX7_fills_116, eX7_fills_117, eX7_fills_120, eX7_fills_121, eX7_fills_124, eX7_fills_126, eX7_fills_128, eX7_fills_129, eX7_fills_130, eX7_fills_133, eX7_fills_134, eX7_fills_135, eX7_fills_138, eX7_fills_141, eX7_fills_144, eX7_fills_147, eX7_fills_148, Nat.add_zero, Nat.reduceAdd, Nat.reduceLeDiff, Nat.zero_le, and_true, o_aload_0r, o_callS_1, o_callV_1, o_const_e, o_getf_e, o_goto_e, o_iald_e, o_iald_f, o_iast_e, o_icmp_e, o_idiv_e, o_if_e, o_ii_e, o_iinc_5, o_iinc_6, o_iload_1, o_iload_2, o_iload_3, o_iload_4, o_iload_5, o_iload_6, o_iload_7, o_irem_e, o_ist_4, o_ist_5, o_ist_6, o_ist_7, o_zret_0, o_zret_1, tl_n, tl_s, true_and, xnlv_i, xnlv_n, xnlv_r, xwt_0, xwt_f, xwt_i, xwt_l, xwt_r, Option.isSome, not_true_eq_false, not_false_eq_true, true_implies, false_implies, and_true, true_and, implies_true, forall_const, ↓reduceIte, Bool.false_eq_true, i10, i10n]
    exact k
  | some a =>
    simp only [hj] at k
    obtain ⟨ha, rfl⟩ := ix_s (by omega) hj
    simp only [eX7_fills_0, eX7_fills_1, eX7_fills_2, eX7_fills_5, eX7_fills_8, eX7_fills_9, eX7_fills_10, eX7_fills_13, eX7_fills_16, eX7_fills_17, eX7_fills_20, eX7_fills_23, eX7_fills_24, eX7_fills_25, eX7_fills_26, eX7_fills_29, eX7_fills_30, eX7_fills_31, eX7_fills_33, eX7_fills_34, eX7_fills_36, eX7_fills_37, eX7_fills_38, eX7_fills_40, eX7_fills_41, eX7_fills_44, eX7_fills_45, eX7_fills_47, eX7_fills_48, eX7_fills_49, eX7_fills_51, eX7_fills_52, eX7_fills_55, eX7_fills_56, eX7_fills_57, eX7_fills_58, eX7_fills_60, eX7_fills_61, eX7_fills_65, eX7_fills_66, eX7_fills_68, eX7_fills_69, eX7_fills_72, eX7_fills_73, eX7_fills_75, eX7_fills_76, eX7_fills_78, eX7_fills_80, eX7_fills_81, eX7_fills_83, eX7_fills_84, eX7_fills_87, eX7_fills_89, eX7_fills_91, eX7_fills_92, eX7_fills_94, eX7_fills_95, eX7_fills_97, eX7_fills_98, eX7_fills_101, eX7_fills_103, eX7_fills_105, eX7_fills_106, eX7_fills_107, eX7_fills_110, eX7_fills_112, eX7_fills_114, eX7_fills_115, eX7_fills_116, eX7_fills_117, eX7_fills_120, eX7_fills_121, eX7_fills_124, eX7_fills_126, eX7_fills_128, eX7_fills_129, eX7_fills_130, eX7_fills_133, eX7_fills_134, eX7_fills_135, eX7_fills_138, eX7_fills_141, eX7_fills_144, eX7_fills_147, eX7_fills_148, Nat.add_zero, Nat.reduceAdd, Nat.reduceLeDiff, Nat.zero_le, and_true, o_aload_0r, o_callS_1, o_callV_1, o_const_e, o_getf_e, o_goto_e, o_iald_e, o_iald_f, o_iast_e, o_icmp_e, o_idiv_e, o_if_e, o_ii_e, o_iinc_5, o_iinc_6, o_iload_1, o_iload_2, o_iload_3, o_iload_4, o_iload_5, o_iload_6, o_iload_7, o_irem_e, o_ist_4, o_ist_5, o_ist_6, o_ist_7, o_zret_0, o_zret_1, tl_n, tl_s, true_and, xnlv_i, xnlv_n, xnlv_r, xwt_0, xwt_f, xwt_i, xwt_l, xwt_r, Option.isSome, not_true_eq_false, not_false_eq_true, true_implies, false_implies, and_true, true_and, implies_true, forall_const, ↓reduceIte, Bool.false_eq_true, i10, i10n, h.1.cls, h.1.g0, h.1.g1, h.1.g2, h.1.g3, h.1.g4, h.1.g5, h.1.g6, h.1.g7, h.1.g8, h.1.g9, h.1.g10, h.1.g11, h.1.g12, h.1.g13, h.1.g14, h.1.g15, h.1.g16, h.1.g17, h.1.g18, h.1.g19, h.i0, h.i1, h.i2, h.i3, h.i4, h.i5, h.i6, h.i7, h.i8, h.i9, h.i10, h.j0, h.j1, h.j2, h.j3, h.j4, h.j5, h.j6, h.j7, h.j8, h.j9, h.j10]
    refine d_isCell h ok ?_
    cases hj2 : ix x.n u with
    | none =>
      simp only [hj2, l1, ↓reduceIte] at k
      rw [h.self] at k
      simp only [eX7_fills_0, eX7_fills_1, eX7_fills_2, eX7_fills_5, eX7_fills_8, eX7_fills_9, eX7_fills_10, eX7_fills_13, eX7_fills_16, eX7_fills_17, eX7_fills_20, eX7_fills_23, eX7_fills_24, eX7_fills_25, eX7_fills_26, eX7_fills_29, eX7_fills_30, eX7_fills_31, eX7_fills_33, eX7_fills_34, eX7_fills_36, eX7_fills_37, eX7_fills_38, eX7_fills_40, eX7_fills_41, eX7_fills_44, eX7_fills_45, eX7_fills_47, eX7_fills_48, eX7_fills_49, eX7_fills_51, eX7_fills_52, eX7_fills_55, eX7_fills_56, eX7_fills_57, eX7_fills_58, eX7_fills_60, eX7_fills_61, eX7_fills_65, eX7_fills_66, eX7_fills_68, eX7_fills_69, eX7_fills_72, eX7_fills_73, eX7_fills_75, eX7_fills_76, eX7_fills_78, eX7_fills_80, eX7_fills_81, eX7_fills_83, eX7_fills_84, eX7_fills_87, eX7_fills_89, eX7_fills_91, eX7_fills_92, eX7_fills_94, eX7_fills_95, eX7_fills_97, eX7_fills_98, eX7_fills_101, eX7_fills_103, eX7_fills_105, eX7_fills_106, eX7_fills_107, eX7_fills_110, eX7_fills_112, eX7_fills_114, eX7_fills_115, eX7_fills_116, eX7_fills_117, eX7_fills_120, eX7_fills_121, eX7_fills_124, eX7_fills_126, eX7_fills_128, eX7_fills_129, eX7_fills_130, eX7_fills_133, eX7_fills_134, eX7_fills_135, eX7_fills_138, eX7_fills_141, eX7_fills_144, eX7_fills_147, eX7_fills_148, Nat.add_zero, Nat.reduceAdd, Nat.reduceLeDiff, Nat.zero_le, and_true, o_aload_0r, o_callS_1, o_callV_1, o_const_e, o_getf_e, o_goto_e, o_iald_e, o_iald_f, o_iast_e, o_icmp_e, o_idiv_e, o_if_e, o_ii_e, o_iinc_5, o_iinc_6, o_iload_1, o_iload_2, o_iload_3, o_iload_4, o_iload_5, o_iload_6, o_iload_7, o_irem_e, o_ist_4, o_ist_5, o_ist_6, o_ist_7, o_zret_0, o_zret_1, tl_n, tl_s, true_and, xnlv_i, xnlv_n, xnlv_r, xwt_0, xwt_f, xwt_i, xwt_l, xwt_r, Option.isSome, not_true_eq_false, not_false_eq_true, true_implies, false_implies, and_true, true_and, implies_true, forall_const, ↓reduceIte, Bool.false_eq_true, i10, i10n]
      exact k
    | some c =>
      simp only [hj2] at k
      obtain ⟨hc, rfl⟩ := ix_s (by omega) hj2
      simp only [eX7_fills_0, eX7_fills_1, eX7_fills_2, eX7_fills_5, eX7_fills_8, eX7_fills_9, eX7_fills_10, eX7_fills_13, eX7_fills_16, eX7_fills_17, eX7_fills_20, eX7_fills_23, eX7_fills_24, eX7_fills_25, eX7_fills_26, eX7_fills_29, eX7_fills_30, eX7_fills_31, eX7_fills_33, eX7_fills_34, eX7_fills_36, eX7_fills_37, eX7_fills_38, eX7_fills_40, eX7_fills_41, eX7_fills_44, eX7_fills_45, eX7_fills_47, eX7_fills_48, eX7_fills_49, eX7_fills_51, eX7_fills_52, eX7_fills_55, eX7_fills_56, eX7_fills_57, eX7_fills_58, eX7_fills_60, eX7_fills_61, eX7_fills_65, eX7_fills_66, eX7_fills_68, eX7_fills_69, eX7_fills_72, eX7_fills_73, eX7_fills_75, eX7_fills_76, eX7_fills_78, eX7_fills_80, eX7_fills_81, eX7_fills_83, eX7_fills_84, eX7_fills_87, eX7_fills_89, eX7_fills_91, eX7_fills_92, eX7_fills_94, eX7_fills_95, eX7_fills_97, eX7_fills_98, eX7_fills_101, eX7_fills_103, eX7_fills_105, eX7_fills_106, eX7_fills_107, eX7_fills_110, eX7_fills_112, eX7_fills_114, eX7_fills_115, eX7_fills_116, eX7_fills_117, eX7_fills_120, eX7_fills_121, eX7_fills_124, eX7_fills_126, eX7_fills_128, eX7_fills_129, eX7_fills_130, eX7_fills_133, eX7_fills_134, eX7_fills_135, eX7_fills_138, eX7_fills_141, eX7_fills_144, eX7_fills_147, eX7_fills_148, Nat.add_zero, Nat.reduceAdd, Nat.reduceLeDiff, Nat.zero_le, and_true, o_aload_0r, o_callS_1, o_callV_1, o_const_e, o_getf_e, o_goto_e, o_iald_e, o_iald_f, o_iast_e, o_icmp_e, o_idiv_e, o_if_e, o_ii_e, o_iinc_5, o_iinc_6, o_iload_1, o_iload_2, o_iload_3, o_iload_4, o_iload_5, o_iload_6, o_iload_7, o_irem_e, o_ist_4, o_ist_5, o_ist_6, o_ist_7, o_zret_0, o_zret_1, tl_n, tl_s, true_and, xnlv_i, xnlv_n, xnlv_r, xwt_0, xwt_f, xwt_i, xwt_l, xwt_r, Option.isSome, not_true_eq_false, not_false_eq_true, true_implies, false_implies, and_true, true_and, implies_true, forall_const, ↓reduceIte, Bool.false_eq_true, i10, i10n]
      refine d_isMark ?_
      cases hm : ix 8 v with
      | none =>
        simp only [hm, l2, ↓reduceIte] at k
        rw [h.self] at k
        simp only [eX7_fills_0, eX7_fills_1, eX7_fills_2, eX7_fills_5, eX7_fills_8, eX7_fills_9, eX7_fills_10, eX7_fills_13, eX7_fills_16, eX7_fills_17, eX7_fills_20, eX7_fills_23, eX7_fills_24, eX7_fills_25, eX7_fills_26, eX7_fills_29, eX7_fills_30, eX7_fills_31, eX7_fills_33, eX7_fills_34, eX7_fills_36, eX7_fills_37, eX7_fills_38, eX7_fills_40, eX7_fills_41, eX7_fills_44, eX7_fills_45, eX7_fills_47, eX7_fills_48, eX7_fills_49, eX7_fills_51, eX7_fills_52, eX7_fills_55, eX7_fills_56, eX7_fills_57, eX7_fills_58, eX7_fills_60, eX7_fills_61, eX7_fills_65, eX7_fills_66, eX7_fills_68, eX7_fills_69, eX7_fills_72, eX7_fills_73, eX7_fills_75, eX7_fills_76, eX7_fills_78, eX7_fills_80, eX7_fills_81, eX7_fills_83, eX7_fills_84, eX7_fills_87, eX7_fills_89, eX7_fills_91, eX7_fills_92, eX7_fills_94, eX7_fills_95, eX7_fills_97, eX7_fills_98, eX7_fills_101, eX7_fills_103, eX7_fills_105, eX7_fills_106, eX7_fills_107, eX7_fills_110, eX7_fills_112, eX7_fills_114, eX7_fills_115, eX7_fills_116, eX7_fills_117, eX7_fills_120, eX7_fills_121, eX7_fills_124, eX7_fills_126, eX7_fills_128, eX7_fills_129, eX7_fills_130, eX7_fills_133, eX7_fills_134, eX7_fills_135, eX7_fills_138, eX7_fills_141, eX7_fills_144, eX7_fills_147, eX7_fills_148, Nat.add_zero, Nat.reduceAdd, Nat.reduceLeDiff, Nat.zero_le, and_true, o_aload_0r, o_callS_1, o_callV_1, o_const_e, o_getf_e, o_goto_e, o_iald_e, o_iald_f, o_iast_e, o_icmp_e, o_idiv_e, o_if_e, o_ii_e, o_iinc_5, o_iinc_6, o_iload_1, o_iload_2, o_iload_3, o_iload_4, o_iload_5, o_iload_6, o_iload_7, o_irem_e, o_ist_4, o_ist_5, o_ist_6, o_ist_7, o_zret_0, o_zret_1, tl_n, tl_s, true_and, xnlv_i, xnlv_n, xnlv_r, xwt_0, xwt_f, xwt_i, xwt_l, xwt_r, Option.isSome, not_true_eq_false, not_false_eq_true, true_implies, false_implies, and_true, true_and, implies_true, forall_const, ↓reduceIte, Bool.false_eq_true, i10, i10n]
        exact k
      | some q =>
        simp only [hm] at k
        obtain ⟨hm1, rfl⟩ := ix_s (by omega) hm
        have d1 : a / x.wi ≤ a := Nat.div_le_self _ _
        have d2 : c / x.wi ≤ c := Nat.div_le_self _ _
        have m1 : a % x.wi < x.wi := Nat.mod_lt _ (by omega)
        have m2 : c % x.wi < x.wi := Nat.mod_lt _ (by omega)
        simp only [eX7_fills_0, eX7_fills_1, eX7_fills_2, eX7_fills_5, eX7_fills_8, eX7_fills_9, eX7_fills_10, eX7_fills_13, eX7_fills_16, eX7_fills_17, eX7_fills_20, eX7_fills_23, eX7_fills_24, eX7_fills_25, eX7_fills_26, eX7_fills_29, eX7_fills_30, eX7_fills_31, eX7_fills_33, eX7_fills_34, eX7_fills_36, eX7_fills_37, eX7_fills_38, eX7_fills_40, eX7_fills_41, eX7_fills_44, eX7_fills_45, eX7_fills_47, eX7_fills_48, eX7_fills_49, eX7_fills_51, eX7_fills_52, eX7_fills_55, eX7_fills_56, eX7_fills_57, eX7_fills_58, eX7_fills_60, eX7_fills_61, eX7_fills_65, eX7_fills_66, eX7_fills_68, eX7_fills_69, eX7_fills_72, eX7_fills_73, eX7_fills_75, eX7_fills_76, eX7_fills_78, eX7_fills_80, eX7_fills_81, eX7_fills_83, eX7_fills_84, eX7_fills_87, eX7_fills_89, eX7_fills_91, eX7_fills_92, eX7_fills_94, eX7_fills_95, eX7_fills_97, eX7_fills_98, eX7_fills_101, eX7_fills_103, eX7_fills_105, eX7_fills_106, eX7_fills_107, eX7_fills_110, eX7_fills_112, eX7_fills_114, eX7_fills_115, eX7_fills_116, eX7_fills_117, eX7_fills_120, eX7_fills_121, eX7_fills_124, eX7_fills_126, eX7_fills_128, eX7_fills_129, eX7_fills_130, eX7_fills_133, eX7_fills_134, eX7_fills_135, eX7_fills_138, eX7_fills_141, eX7_fills_144, eX7_fills_147, eX7_fills_148, Nat.add_zero, Nat.reduceAdd, Nat.reduceLeDiff, Nat.zero_le, and_true, o_aload_0r, o_callS_1, o_callV_1, o_const_e, o_getf_e, o_goto_e, o_iald_e, o_iald_f, o_iast_e, o_icmp_e, o_idiv_e, o_if_e, o_ii_e, o_iinc_5, o_iinc_6, o_iload_1, o_iload_2, o_iload_3, o_iload_4, o_iload_5, o_iload_6, o_iload_7, o_irem_e, o_ist_4, o_ist_5, o_ist_6, o_ist_7, o_zret_0, o_zret_1, tl_n, tl_s, true_and, xnlv_i, xnlv_n, xnlv_r, xwt_0, xwt_f, xwt_i, xwt_l, xwt_r, Option.isSome, not_true_eq_false, not_false_eq_true, true_implies, false_implies, and_true, true_and, implies_true, forall_const, ↓reduceIte, Bool.false_eq_true, i10, i10n, h.1.cls, h.1.g0, h.1.g1, h.1.g2, h.1.g3, h.1.g4, h.1.g5, h.1.g6, h.1.g7, h.1.g8, h.1.g9, h.1.g10, h.1.g11, h.1.g12, h.1.g13, h.1.g14, h.1.g15, h.1.g16, h.1.g17, h.1.g18, h.1.g19, h.i0, h.i1, h.i2, h.i3, h.i4, h.i5, h.i6, h.i7, h.i8, h.i9, h.i10, h.j0, h.j1, h.j2, h.j3, h.j4, h.j5, h.j6, h.j7, h.j8, h.j9, h.j10, eq0_nI (a := x.wi) (by omega), pk_div (a := a) (d := x.wi) (by omega) (by omega) (by omega), pk_div (a := c) (d := x.wi) (by omega) (by omega) (by omega), rem2, lt_nI (a := c / x.wi) (b := a / x.wi) (by omega) (by omega), le_nI (a := a % x.wi) (b := c % x.wi) (by omega) (by omega), z]
        refine ⟨fun g => ?_, fun g => ⟨fun g2 => ?_, fun g2 => ?_⟩⟩
        · rw [if_pos (Or.inl g)] at k
          simp only [l2, ↓reduceIte] at k
          rw [h.self] at k
          exact k
        · rw [if_neg (show ¬ (c / x.wi < a / x.wi ∨ c % x.wi < a % x.wi) by omega)] at k
          simp only [l3, ↓reduceIte] at k
          have := k_fil2 h ok ha hc hm1 g2 (Q := fun v AH' _ => Q v AH') k (c / x.wi + 1 - a / x.wi) (a / x.wi) (by omega) (Nat.le_refl _) none none
          rw [Nat.div_add_mod, fbF_0, h.self] at this
          exact this
        · rw [if_pos (show c / x.wi < a / x.wi ∨ c % x.wi < a % x.wi by omega)] at k
          simp only [l2, ↓reduceIte] at k
          rw [h.self] at k
          exact k
end TXT
