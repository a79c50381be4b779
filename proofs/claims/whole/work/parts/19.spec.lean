/-! the mathematical picture: what both sides are tied to -/
def sLat : Type := (Nat → Nat) × (Nat → Nat) × Nat × Nat × Nat × Nat × Nat × Nat × Nat × Int32
def sLat.mk (x : sLat) : Nat → Nat := x.1
def sLat.pn (x : sLat) : Nat → Nat := x.2.1
def sLat.hi (x : sLat) : Nat := x.2.2.1
def sLat.wi (x : sLat) : Nat := x.2.2.2.1
def sLat.he (x : sLat) : Nat := x.2.2.2.2.1
def sLat.ne (x : sLat) : Nat := x.2.2.2.2.2.1
def sLat.ed (x : sLat) : Nat := x.2.2.2.2.2.2.1
def sLat.ki (x : sLat) : Nat := x.2.2.2.2.2.2.2.1
def sLat.nu (x : sLat) : Nat := x.2.2.2.2.2.2.2.2.1
def sLat.se (x : sLat) : Int32 := x.2.2.2.2.2.2.2.2.2
def sLat.wmk (x : sLat) (c v : Nat) : sLat := (va_up x.mk c v, x.2)
def sLat.wpn (x : sLat) (c v : Nat) : sLat := (x.1, va_up x.pn c v, x.2.2)
def sLat.wse (x : sLat) (s : Int32) : sLat := (x.mk, x.pn, x.hi, x.wi, x.he, x.ne, x.ed, x.ki, x.nu, s)
def sLat.whe (x : sLat) (h : Nat) : sLat := (x.mk, x.pn, x.hi, x.wi, h, x.ne, x.ed, x.ki, x.nu, x.se)
def sLat.wne (x : sLat) (h : Nat) : sLat := (x.mk, x.pn, x.hi, x.wi, x.he, h, x.ed, x.ki, x.nu, x.se)
def sLat.wed (x : sLat) (h : Nat) : sLat := (x.mk, x.pn, x.hi, x.wi, x.he, x.ne, h, x.ki, x.nu, x.se)
def sLat.wpr (x : sLat) (k n : Nat) : sLat := (x.mk, x.pn, x.hi, x.wi, x.he, x.ne, x.ed, k, n, x.se)
def sLat.wsz (x : sLat) (h w : Nat) : sLat := (fun _ => 0, fun _ => 0, h, w, x.he, x.ne, x.ed, x.ki, x.nu, x.se)
def sLat.n (x : sLat) : Nat := x.hi * x.wi
def sLat.nd (x : sLat) : Nat := if x.ne = 0 then 4 else if x.ne = 1 then 8 else 6
def sLat.ok (x : sLat) : Prop := (∀ i, x.mk i < 8) ∧ (∀ i, x.pn i < 2) ∧ (2 ≤ x.hi ∧ x.hi ≤ 6) ∧ (2 ≤ x.wi ∧ x.wi ≤ 6) ∧ x.he ≤ 99 ∧ x.ne ≤ 2 ∧ x.ed ≤ 2 ∧ x.ki ≤ 3 ∧ x.nu ≤ 9 ∧ (∀ i, 36 ≤ i → x.mk i = 0) ∧ (∀ i, 36 ≤ i → x.pn i = 0)
theorem sLat.n36 {x : sLat} (h : x.ok) : x.n ≤ 36 := show x.hi * x.wi ≤ 6 * 6 from Nat.mul_le_mul h.2.2.1.2 h.2.2.2.1.2
theorem sLat.n4 {x : sLat} (h : x.ok) : 4 ≤ x.n := show 2 * 2 ≤ x.hi * x.wi from Nat.mul_le_mul h.2.2.1.1 h.2.2.2.1.1
theorem sLat.nd8 {x : sLat} : x.nd ≤ 8 := by unfold sLat.nd; split <;> (try split) <;> omega
theorem sLat.nd4 {x : sLat} : 4 ≤ x.nd := by unfold sLat.nd; split <;> (try split) <;> omega
/-! numbers -/
theorem le_nI {a b : Nat} (ha : a < 2 ^ 31) (hb : b < 2 ^ 31) : (nI a ≤ nI b) = (a ≤ b) := propext (nI_leI ha hb)
theorem lt_nI {a b : Nat} (ha : a < 2 ^ 31) (hb : b < 2 ^ 31) : (nI a < nI b) = (a < b) := propext (nI_ltI ha hb)
theorem eq_nI {a b : Nat} (ha : a < 2 ^ 31) (hb : b < 2 ^ 31) : (nI a = nI b) = (a = b) := propext (nI_eq ha hb)
theorem z_nI : (0 : Int32) = nI 0 := rfl
theorem lt0_nI {a : Nat} (ha : a < 2 ^ 31) : (nI a < 0) = False := eq_false (nI_pos ha)
theorem ge0_nI {a : Nat} (ha : a < 2 ^ 31) : (0 ≤ nI a) = True := eq_true (nI_pos' ha)
theorem eq0_nI {a : Nat} (ha : a < 2 ^ 31) : (nI a = 0) = (a = 0) := by rw [z_nI]; exact eq_nI ha (by decide)
theorem le0_nI {a : Nat} (ha : a < 2 ^ 31) : (nI a ≤ 0) = (a = 0) := by rw [z_nI, le_nI ha (by decide)]; exact propext (by omega)
theorem gt0_nI {a : Nat} (ha : a < 2 ^ 31) : (0 < nI a) = (0 < a) := by rw [z_nI, lt_nI (by decide) ha]
theorem n1 : (1 : Int32) = nI 1 := rfl
theorem n2 : (2 : Int32) = nI 2 := rfl
theorem n3 : (3 : Int32) = nI 3 := rfl
theorem n4 : (4 : Int32) = nI 4 := rfl
theorem n5 : (5 : Int32) = nI 5 := rfl
theorem n6 : (6 : Int32) = nI 6 := rfl
theorem n7 : (7 : Int32) = nI 7 := rfl
theorem n8 : (8 : Int32) = nI 8 := rfl
theorem n9 : (9 : Int32) = nI 9 := rfl
theorem n10 : (10 : Int32) = nI 10 := rfl
theorem n11 : (11 : Int32) = nI 11 := rfl
theorem n12 : (12 : Int32) = nI 12 := rfl
theorem n30 : (30 : Int32) = nI 30 := rfl
theorem n36 : (36 : Int32) = nI 36 := rfl
theorem n47 : (47 : Int32) = nI 47 := rfl
theorem n60 : (60 : Int32) = nI 60 := rfl
theorem n83 : (83 : Int32) = nI 83 := rfl
theorem n89 : (89 : Int32) = nI 89 := rfl
theorem n99 : (99 : Int32) = nI 99 := rfl
theorem n100 : (100 : Int32) = nI 100 := rfl
theorem n105 : (105 : Int32) = nI 105 := rfl
theorem n113 : (113 : Int32) = nI 113 := rfl
theorem n200 : (200 : Int32) = nI 200 := rfl
theorem n1000 : (1000 : Int32) = nI 1000 := rfl
theorem n65536 : (65536 : Int32) = nI 65536 := rfl
/-- an int as a place below n -/
def ix (n : Nat) (v : Int32) : Option Nat := if 0 ≤ v ∧ v < nI n then some v.toNatClampNeg else none
theorem ix_cases {n : Nat} (hn : n < 2 ^ 31) (v : Int32) : (∃ j, j < n ∧ v = nI j ∧ ix n v = some j) ∨ (v < 0 ∧ ix n v = none) ∨ (¬ v < 0 ∧ nI n ≤ v ∧ ix n v = none) := by
  rcases pk_ix v hn with h | h | ⟨j, h1, rfl⟩
  · refine Or.inr (Or.inl ⟨h, ?_⟩)
    unfold ix
    rw [if_neg (fun g => absurd g.1 (by rw [Int32.le_iff_toInt_le, Int32.lt_iff_toInt_lt] at *; omega))]
  · by_cases h0 : v < 0
    · refine Or.inr (Or.inl ⟨h0, ?_⟩)
      unfold ix
      rw [if_neg (fun g => absurd g.1 (by rw [Int32.le_iff_toInt_le, Int32.lt_iff_toInt_lt] at *; omega))]
    · refine Or.inr (Or.inr ⟨h0, h, ?_⟩)
      unfold ix
      rw [if_neg (fun g => absurd g.2 (by rw [Int32.le_iff_toInt_le] at h; rw [Int32.lt_iff_toInt_lt]; omega))]
  · refine Or.inl ⟨j, h1, rfl, ?_⟩
    unfold ix
    rw [if_pos ⟨nI_pos' (by omega), nI_lt h1 hn⟩, nI_clamp (by omega)]
/-! sums -/
def sm (f : Nat → Nat) : Nat → Nat
  | 0 => 0
  | n + 1 => sm f n + f n
theorem sm_le {f : Nat → Nat} {B : Nat} (h : ∀ i, f i ≤ B) : ∀ n, sm f n ≤ n * B
  | 0 => by simp [sm]
  | n + 1 => by
    have h1 := sm_le h n
    have h2 := h n
    rw [sm, Nat.succ_mul]
    omega
theorem sm_congr {f g : Nat → Nat} : ∀ {n : Nat}, (∀ i, i < n → f i = g i) → sm f n = sm g n
  | 0, _ => rfl
  | n + 1, h => by rw [sm, sm, sm_congr (fun i hi => h i (Nat.lt_succ_of_lt hi)), h n (Nat.lt_succ_self n)]
/-! who is beside whom -/
def dR (d : Nat) : Int := [-1, 0, 1, 0, -1, 1, 1, -1].getD d 0
def dC (d : Nat) : Int := [0, 1, 0, -1, 1, 1, -1, -1].getD d 0
def stp (ne d : Nat) : Nat := if ne = 2 then [0, 1, 2, 3, 4, 6].getD d 0 else d
def nbF (hi wi ed c s : Nat) : Option Nat :=
  let row : Int := (c / wi : Nat) + dR s
  let col : Int := (c % wi : Nat) + dC s
  if ed = 0 ∧ ((row < 0 ∨ (hi : Int) ≤ row) ∨ (col < 0 ∨ (wi : Int) ≤ col)) then none
  else some (((if ed = 2 ∧ (col < 0 ∨ (wi : Int) ≤ col) then row + dC s else row) % (hi : Int)).toNat * wi + (col % (wi : Int)).toNat)
def sLat.nb (x : sLat) (c d : Nat) : Option Nat := nbF x.hi x.wi x.ed c (stp x.ne d)
theorem nb_aux {hi wi : Nat} (h1 : 0 < hi) (h2 : 0 < wi) (z y : Int) : (z % (hi : Int)).toNat * wi + (y % (wi : Int)).toNat < hi * wi := by
  have a1 := Int.emod_nonneg z (b := (hi : Int)) (by omega)
  have a2 := Int.emod_lt_of_pos z (b := (hi : Int)) (by omega)
  have b1 := Int.emod_nonneg y (b := (wi : Int)) (by omega)
  have b2 := Int.emod_lt_of_pos y (b := (wi : Int)) (by omega)
  have a3 : (z % (hi : Int)).toNat + 1 ≤ hi := by omega
  have b3 : (y % (wi : Int)).toNat < wi := by omega
  have := Nat.mul_le_mul_right wi a3
  rw [Nat.add_mul, Nat.one_mul] at this
  omega
theorem nbF_lt {hi wi ed c s j : Nat} (h1 : 0 < hi) (h2 : 0 < wi) (h : nbF hi wi ed c s = some j) : j < hi * wi := by
  unfold nbF at h
  simp only at h
  split at h
  · cases h
  · cases h
    exact nb_aux h1 h2 _ _
theorem sLat.nb_lt {x : sLat} (h : x.ok) {c d j : Nat} (hj : x.nb c d = some j) : j < x.n := nbF_lt (by have := h.2.2.1.1; omega) (by have := h.2.2.2.1.1; omega) hj
theorem sLat.nb_36 {x : sLat} (h : x.ok) {c d j : Nat} (hj : x.nb c d = some j) : j < 36 := Nat.lt_of_lt_of_le (sLat.nb_lt h hj) (sLat.n36 h)
/-! what borders cost -/
def apt (a b : Nat) : Nat := min (if a < b then b - a else a - b) (8 - (if a < b then b - a else a - b))
def prF (ki nu a b : Nat) : Nat := if ki = 0 then (if a = b then 0 else nu) else if ki = 1 then min (apt a b) nu else if ki = 2 then (if apt a b = 0 ∨ apt a b = nu then 0 else 2) else (if a = b then 0 else if a % 2 = b % 2 then 1 else nu)
def sLat.P (x : sLat) (a b : Nat) : Nat := prF x.ki x.nu a b
theorem prF_le {ki nu a b : Nat} (h : nu ≤ 9) : prF ki nu a b ≤ 9 := by
  unfold prF
  repeat' split
  all_goals (first | omega | exact Nat.le_trans (Nat.min_le_right _ _) h)
def sLat.T (x : sLat) (c v d : Nat) : Nat := match x.nb c d with
  | none => 0
  | some j => x.P v (x.mk j)
def sLat.E (x : sLat) (c v : Nat) : Nat := sm (x.T c v) x.nd
def sLat.en (x : sLat) (c : Nat) : Nat := x.E c (x.mk c)
def sLat.B (x : sLat) : Nat := sm x.en x.n / 2
theorem sLat.T_le {x : sLat} (h : x.ok) {c v d : Nat} : x.T c v d ≤ 9 := by
  unfold sLat.T
  split
  · omega
  · exact prF_le h.2.2.2.2.2.2.2.2.1
theorem sLat.Em_le {x : sLat} (h : x.ok) {c v m : Nat} (hm : m ≤ 8) : sm (x.T c v) m ≤ 72 := by
  have := sm_le (f := x.T c v) (B := 9) (fun i => sLat.T_le h) m
  omega
theorem sLat.E_le {x : sLat} (h : x.ok) {c v : Nat} : x.E c v ≤ 72 := sLat.Em_le h sLat.nd8
/-! draws, changes, tries -/
theorem drS_ex : ∃ f : Int32 → Int32, ∀ s, f s = s * 1103515245 + 12345 := ⟨_, fun _ => rfl⟩
noncomputable def drS : Int32 → Int32 := Classical.choose drS_ex
theorem drS_eq (s : Int32) : drS s = s * 1103515245 + 12345 := Classical.choose_spec drS_ex s
theorem drV_ex : ∃ f : Int32 → Nat → Nat, ∀ s m, f s m = (drS s).toBitVec.toNat % 2 ^ 31 / 65536 % m := ⟨_, fun _ _ => rfl⟩
noncomputable def drV : Int32 → Nat → Nat := Classical.choose drV_ex
theorem drV_eq (s : Int32) (m : Nat) : drV s m = (drS s).toBitVec.toNat % 2 ^ 31 / 65536 % m := Classical.choose_spec drV_ex s m
def sLat.ch (x : sLat) (c v : Nat) : Nat := if x.pn c ≠ 0 ∨ x.mk c = v then 0 else if x.E c v ≤ x.en c then 100 else x.he / (x.E c v - x.en c)
noncomputable def sLat.at1 (x : sLat) (c v : Nat) : sLat × Nat := if x.ch c v = 0 then (x, 0) else if x.ch c v < 100 then (if x.ch c v ≤ drV x.se 100 then (x.wse (drS x.se), 0) else ((x.wse (drS x.se)).wmk c v, 1)) else (x.wmk c v, 1)
noncomputable def sLat.try1 (x : sLat) : sLat × Nat := match x.nb (drV x.se x.n) (drV (drS x.se) x.nd) with
  | none => (x.wse (drS (drS x.se)), 0)
  | some j => (x.wse (drS (drS x.se))).at1 (drV x.se x.n) (x.mk j)
noncomputable def sLat.trN (x : sLat) : Nat → sLat × Nat
  | 0 => (x, 0)
  | k + 1 => ((x.trN k).1.try1.1, (x.trN k).2 + (x.trN k).1.try1.2)
/-! cooling -/
def sLat.hasB (x : sLat) (c v : Nat) : Nat → Bool
  | 0 => false
  | d + 1 => x.hasB c v d || (match x.nb c d with
    | none => false
    | some j => x.mk j == v)
def sLat.clF (x : sLat) (c : Nat) : Nat → Nat × Nat
  | 0 => (x.mk c, x.en c)
  | v + 1 => if x.hasB c v x.nd = true ∧ x.E c v < (x.clF c v).2 then (v, x.E c v) else x.clF c v
def sLat.rnd (x : sLat) : Nat → sLat × Nat
  | 0 => (x, 0)
  | c + 1 => if (x.rnd c).1.pn c ≠ 0 then x.rnd c else if ((x.rnd c).1.clF c 8).1 = (x.rnd c).1.mk c then x.rnd c else ((x.rnd c).1.wmk c ((x.rnd c).1.clF c 8).1, (x.rnd c).2 + 1)
def sLat.cool1 (x : sLat) : sLat × Nat := x.rnd x.n
def sLat.coN (x : sLat) : Nat → sLat × Nat
  | 0 => (x, 0)
  | k + 1 => ((x.coN k).1.cool1.1, (x.coN k).2 + (x.coN k).1.cool1.2)
