/-! grains: the mathematical picture -/
abbrev sSt : Type := (Nat → Option Nat) × (Nat → Nat) × Nat
def spD (x : sLat) (f t c d : Nat) (a : sSt) : sSt := match x.nb c d with
  | none => a
  | some o => if a.1 o = none ∧ x.mk o = x.mk f then (va_up a.1 o (some t), va_up a.2.1 a.2.2 o, a.2.2 + 1) else a
def spI (x : sLat) (f t c : Nat) (a : sSt) : Nat → sSt
  | 0 => a
  | d + 1 => spD x f t c d (spI x f t c a d)
def spO (x : sLat) (f t : Nat) : Nat → Nat → sSt → sSt
  | 0, _, a => a
  | k + 1, i, a => if i < a.2.2 then spO x f t k (i + 1) (spI x f t (a.2.1 i) a x.nd) else a
def sp0 (G : Nat → Option Nat) (f t : Nat) : sSt := (va_up G f (some t), fun _ => f, 1)
abbrev sGr : Type := (Nat → Option Nat) × Nat × (Nat → Nat) × (Nat → Nat)
def fS (x : sLat) : Nat → sGr
  | 0 => (fun _ => none, 0, fun _ => 0, fun _ => 0)
  | c + 1 => if (fS x c).1 c = none then ((spO x c (fS x c).2.1 36 0 (sp0 (fS x c).1 c (fS x c).2.1)).1, (fS x c).2.1 + 1, va_up (fS x c).2.2.1 (fS x c).2.1 c, va_up (fS x c).2.2.2 (fS x c).2.1 (spO x c (fS x c).2.1 36 0 (sp0 (fS x c).1 c (fS x c).2.1)).2.2) else fS x c
def sLat.G (x : sLat) : Nat → Option Nat := (fS x x.n).1
def sLat.gT (x : sLat) : Nat := (fS x x.n).2.1
def sLat.gL (x : sLat) : Nat → Nat := (fS x x.n).2.2.1
def sLat.gS (x : sLat) : Nat → Nat := (fS x x.n).2.2.2
/-! how many are of a grain already -/
def cnt (G : Nat → Option Nat) : Nat → Nat := sm (fun i => if G i = none then 0 else 1)
theorem cnt_le {G : Nat → Option Nat} : ∀ n, cnt G n ≤ n
  | 0 => Nat.le_refl 0
  | n + 1 => by
    have h1 := cnt_le (G := G) n
    show cnt G n + (if G n = none then 0 else 1) ≤ n + 1
    split <;> omega
theorem cnt_lt {G : Nat → Option Nat} {o : Nat} (ho : G o = none) : ∀ n, o < n → cnt G n < n
  | 0, h => by omega
  | n + 1, h => by
    show cnt G n + (if G n = none then 0 else 1) < n + 1
    by_cases e : o = n
    · subst e
      rw [if_pos ho]
      have := cnt_le (G := G) o
      omega
    · have := cnt_lt ho n (by omega)
      split <;> omega
theorem cnt_up {G : Nat → Option Nat} {o t : Nat} (ho : G o = none) : ∀ n, cnt (va_up G o (some t)) n = cnt G n + (if o < n then 1 else 0)
  | 0 => by simp [cnt, sm]
  | n + 1 => by
    show cnt (va_up G o (some t)) n + (if va_up G o (some t) n = none then 0 else 1) = cnt G n + (if G n = none then 0 else 1) + _
    rw [cnt_up ho n]
    by_cases e : o = n
    · subst e
      rw [if_neg (Nat.lt_irrefl o), if_pos (Nat.lt_succ_self o), if_pos ho, show va_up G o (some t) o = some t by unfold va_up; rw [if_pos rfl]]
      simp
    · have : va_up G o (some t) n = G n := by unfold va_up; rw [if_neg (by omega)]
      rw [this]
      by_cases e2 : o < n
      · rw [if_pos e2, if_pos (show o < n + 1 by omega)]
        omega
      · rw [if_neg e2, if_neg (show ¬ o < n + 1 by omega)]
        omega
/-- the search stays within its bounds -/
def spOK (x : sLat) (a : sSt) : Prop := a.2.2 ≤ cnt a.1 36 ∧ (∀ i, i < a.2.2 → a.2.1 i < x.n) ∧ 0 < a.2.2
theorem spOK.le {x : sLat} {a : sSt} (h : spOK x a) : a.2.2 ≤ 36 := Nat.le_trans h.1 (cnt_le 36)
theorem spOK.lt {x : sLat} {a : sSt} (h : spOK x a) {o : Nat} (ho : a.1 o = none) (h36 : o < 36) : a.2.2 < 36 := Nat.lt_of_le_of_lt h.1 (cnt_lt ho 36 h36)
theorem spD_ok {x : sLat} (ok : x.ok) {f t c d : Nat} {a : sSt} (h : spOK x a) : spOK x (spD x f t c d a) := by
  unfold spD
  split
  · exact h
  · rename_i o ho
    split
    · rename_i g
      have h36 := sLat.nb_36 ok ho
      refine ⟨?_, fun i hi => ?_, Nat.succ_pos _⟩
      · show a.2.2 + 1 ≤ cnt (va_up a.1 o (some t)) 36
        rw [cnt_up g.1, if_pos h36]
        have := h.1
        omega
      · show va_up a.2.1 a.2.2 o i < x.n
        have hi : i < a.2.2 + 1 := hi
        unfold va_up
        split
        · exact sLat.nb_lt ok ho
        · exact h.2.1 i (by omega)
    · exact h
theorem spI_ok {x : sLat} (ok : x.ok) {f t c : Nat} {a : sSt} (h : spOK x a) : ∀ d, spOK x (spI x f t c a d)
  | 0 => h
  | d + 1 => spD_ok ok (spI_ok ok h d)
theorem spD_mono {x : sLat} {f t c d : Nat} {a : sSt} : a.2.2 ≤ (spD x f t c d a).2.2 ∧ ∀ i, i < a.2.2 → (spD x f t c d a).2.1 i = a.2.1 i := by
  unfold spD
  split
  · exact ⟨Nat.le_refl _, fun _ _ => rfl⟩
  · split
    · refine ⟨Nat.le_succ _, fun i hi => ?_⟩
      show va_up a.2.1 a.2.2 _ i = _
      unfold va_up
      rw [if_neg (by omega)]
    · exact ⟨Nat.le_refl _, fun _ _ => rfl⟩
theorem spO_ok {x : sLat} (ok : x.ok) {f t : Nat} : ∀ (k i : Nat) {a : sSt}, spOK x a → spOK x (spO x f t k i a)
  | 0, _, _, h => h
  | k + 1, i, a, h => by
    unfold spO
    split
    · exact spO_ok ok k (i + 1) (spI_ok ok h _)
    · exact h
theorem sp0_ok {x : sLat} (ok : x.ok) {G : Nat → Option Nat} {f t : Nat} (hf : f < x.n) (hG : G f = none) : spOK x (sp0 G f t) := by
  have h36 := sLat.n36 ok
  refine ⟨?_, fun _ _ => hf, Nat.one_pos⟩
  show 1 ≤ cnt (va_up G f (some t)) 36
  rw [cnt_up hG, if_pos (by omega)]
  omega
/-! what the grains are: of which number a cell is -/
theorem spD_G {x : sLat} {f t c d i : Nat} {a : sSt} : (spD x f t c d a).1 i = a.1 i ∨ (spD x f t c d a).1 i = some t := by
  unfold spD
  split
  · exact Or.inl rfl
  · rename_i o _
    split
    · show va_up a.1 o (some t) i = _ ∨ va_up a.1 o (some t) i = _
      unfold va_up
      split
      · exact Or.inr rfl
      · exact Or.inl rfl
    · exact Or.inl rfl
theorem spD_some {x : sLat} {f t c d i g : Nat} {a : sSt} (h : a.1 i = some g) : (spD x f t c d a).1 i = some g := by
  unfold spD
  split
  · exact h
  · rename_i o _
    split
    · rename_i e
      show va_up a.1 o (some t) i = _
      unfold va_up
      split
      · rename_i e2; subst e2; rw [h] at e; cases e.1
      · exact h
    · exact h
theorem spI_some {x : sLat} {f t c i g : Nat} {a : sSt} (h : a.1 i = some g) : ∀ d, (spI x f t c a d).1 i = some g
  | 0 => h
  | d + 1 => spD_some (spI_some h d)
theorem spO_some {x : sLat} {f t i g : Nat} : ∀ (k j : Nat) {a : sSt}, a.1 i = some g → (spO x f t k j a).1 i = some g
  | 0, _, _, h => h
  | k + 1, j, a, h => by
    unfold spO
    split
    · exact spO_some k (j + 1) (spI_some h _)
    · exact h
theorem spI_G {x : sLat} {f t c i : Nat} {a : sSt} : ∀ d, (spI x f t c a d).1 i = a.1 i ∨ (spI x f t c a d).1 i = some t
  | 0 => Or.inl rfl
  | d + 1 => by
    rcases spD_G (x := x) (f := f) (t := t) (c := c) (d := d) (i := i) (a := spI x f t c a d) with e | e
    · rcases spI_G (x := x) (f := f) (t := t) (c := c) (i := i) (a := a) d with e2 | e2
      · exact Or.inl (e.trans e2)
      · exact Or.inr (e.trans e2)
    · exact Or.inr e
theorem spO_G {x : sLat} {f t i : Nat} : ∀ (k j : Nat) {a : sSt}, (spO x f t k j a).1 i = a.1 i ∨ (spO x f t k j a).1 i = some t
  | 0, _, _ => Or.inl rfl
  | k + 1, j, a => by
    unfold spO
    split
    · rcases spO_G (x := x) (f := f) (t := t) (i := i) k (j + 1) (a := spI x f t (a.2.1 j) a x.nd) with e | e
      · rcases spI_G (x := x) (f := f) (t := t) (c := a.2.1 j) (i := i) (a := a) x.nd with e2 | e2
        · exact Or.inl (e.trans e2)
        · exact Or.inr (e.trans e2)
      · exact Or.inr e
    · exact Or.inl rfl
theorem fS_s {x : sLat} {c : Nat} : fS x (c + 1) = if (fS x c).1 c = none then ((spO x c (fS x c).2.1 36 0 (sp0 (fS x c).1 c (fS x c).2.1)).1, (fS x c).2.1 + 1, va_up (fS x c).2.2.1 (fS x c).2.1 c, va_up (fS x c).2.2.2 (fS x c).2.1 (spO x c (fS x c).2.1 36 0 (sp0 (fS x c).1 c (fS x c).2.1)).2.2) else fS x c := rfl
theorem fS_t {x : sLat} : ∀ c, (fS x c).2.1 ≤ c
  | 0 => Nat.le_refl 0
  | c + 1 => by
    have := fS_t (x := x) c
    rw [fS_s]
    split
    · dsimp only; omega
    · omega
/-- every number below the cells so far; every cell so far has one -/
theorem fS_G {x : sLat} : ∀ c, (∀ i g, (fS x c).1 i = some g → g < (fS x c).2.1) ∧ ∀ i, i < c → ∃ g, (fS x c).1 i = some g
  | 0 => ⟨fun i g h => (by cases h), fun i h => by omega⟩
  | c + 1 => by
    obtain ⟨h1, h2⟩ := fS_G (x := x) c
    rw [fS_s]
    split
    · rename_i hc
      refine ⟨fun i g h => ?_, fun i hi => ?_⟩
      · dsimp only at h ⊢
        rcases spO_G (x := x) (f := c) (t := (fS x c).2.1) (i := i) 36 0 (a := sp0 (fS x c).1 c (fS x c).2.1) with e | e
        · rw [e] at h
          have h : va_up (fS x c).1 c (some (fS x c).2.1) i = some g := h
          unfold va_up at h
          split at h
          · cases h; omega
          · have := h1 i g h; omega
        · rw [e] at h; cases h; omega
      · dsimp only
        by_cases e : i = c
        · subst e
          exact ⟨_, spO_some 36 0 (show va_up (fS x i).1 i (some (fS x i).2.1) i = some (fS x i).2.1 by unfold va_up; rw [if_pos rfl])⟩
        · obtain ⟨g, hg⟩ := h2 i (by omega)
          refine ⟨g, spO_some 36 0 ?_⟩
          show va_up (fS x c).1 c _ i = _
          unfold va_up
          rw [if_neg e]
          exact hg
    · rename_i hc
      refine ⟨h1, fun i hi => ?_⟩
      by_cases e : i = c
      · subst e
        cases hh : (fS x i).1 i with
        | none => exact absurd hh hc
        | some g => exact ⟨g, rfl⟩
      · exact h2 i (by omega)
theorem sLat.gT_le {x : sLat} : x.gT ≤ x.n := fS_t _
theorem sLat.G_lt {x : sLat} {i g : Nat} (h : x.G i = some g) : g < x.gT := (fS_G x.n).1 i g h
theorem sLat.G_some {x : sLat} {i : Nat} (h : i < x.n) : ∃ g, x.G i = some g := (fS_G x.n).2 i h
