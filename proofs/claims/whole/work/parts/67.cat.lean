/-! the class's whole state -/
def sCls : Type := sLat × sRw × Option (sLat × sRw) × sTp × (Nat → Nat) × Nat
def sCls.x (S : sCls) : sLat := S.1
def sCls.p (S : sCls) : sRw := S.2.1
def sCls.im (S : sCls) : Option (sLat × sRw) := S.2.2.1
def sCls.T (S : sCls) : sTp := S.2.2.2.1
def sCls.f (S : sCls) : Nat → Nat := S.2.2.2.2.1
def sCls.n (S : sCls) : Nat := S.2.2.2.2.2
def sCls.wx (S : sCls) (y : sLat) : sCls := (y, S.p, S.im, S.T, S.f, S.n)
def sCls.wp (S : sCls) (q : sRw) : sCls := (S.x, q, S.im, S.T, S.f, S.n)
def sCls.wT (S : sCls) (U : sTp) : sCls := (S.x, S.p, S.im, U, S.f, S.n)
def sCls.wt (S : sCls) (f : Nat → Nat) (n : Nat) : sCls := (S.x, S.p, S.im, S.T, f, n)
def sCls.ok (S : sCls) : Prop := S.x.ok ∧ S.p.ok ∧ S.T.ok ∧ S.n ≤ 100 ∧ (∀ i, S.f i < 128) ∧ ∀ z, S.im = some z → z.1.ok ∧ z.2.ok
def WorAt (A : xH) (b : Nat) (x : sLat) (p : sRw) : Prop := A[b]? = some (.inr (5, [.ref (b + 1), .ref (b + 6), .ref (b + 9), .ref (b + 12)])) ∧ LatG A (b + 1) x ∧ RowG A (b + 6) 6 p.S ∧ RowG A (b + 9) 8 p.E ∧ RowG A (b + 12) 8 p.K
theorem WorAt.fr {A B : xH} {lo hi b : Nat} {x : sLat} {p : sRw} (h : WorAt A b x p) (F : Fr A B lo hi) (sep : b + 15 ≤ lo ∨ hi ≤ b) : WorAt B b x p :=
  ⟨by rw [F.2 _ (by omega)]; exact h.1, h.2.1.fr F (by omega), h.2.2.1.fr F (by omega), h.2.2.2.1.fr F (by omega), h.2.2.2.2.fr F (by omega)⟩
def tpA (o : Nat) : Nat → Option Nat := fun j => if j < 6 then some (o + 45 + 2 * j) else none
def imB (z : Option (sLat × sRw)) : Int32 := if z.isSome then 1 else 0
def CAt (A : xH) (o : Nat) (S : sCls) : Prop :=
  A[o]? = some (.inr (6, [.ref (o + 1), .ref (o + 16), .ref (o + 31), .ref (o + 36), .ref (o + 42), .ref (o + 44), .int (imB S.im)])) ∧
  WorAt A (o + 1) S.x S.p ∧
  (∃ y q, WorAt A (o + 16) y q ∧ y.ok ∧ q.ok ∧ ∀ z, S.im = some z → z = (y, q)) ∧
  (∃ y, LatG A (o + 31) y ∧ y.ok) ∧ GraG A (o + 36) ∧ TxtG A (o + 42) S.f S.n ∧
  A[o + 44]? = some (.inl (6, .inr (.inr (.inr (.inr (tpA o)))))) ∧
  (∀ t, t < 6 → TapG A (o + 45 + 2 * t) (S.T.so t) (S.T.sz t) (S.T.it t)) ∧ S.ok
theorem xaald_of {AH : xH} {a n c : Nat} {f : Nat → Option Nat} {K : Value → Prop} (h : AH[a]? = some (.inl (n, .inr (.inr (.inr (.inr f)))))) (hc : c < n) (hn : n < 2 ^ 31) : xaald AH a (nI c) K = K (xof (f c)) := by
  unfold xaald
  rw [h]
  have := vp_in_nI hc hn
  simp only [this, true_and, nI_clamp (Nat.lt_trans hc hn)]
section CAT
variable {A B : xH} {o : Nat} {S : sCls}
theorem CAt.cls (h : CAt A o S) : xcls A o 6 = True := xcls_of h.1
theorem CAt.g0 (h : CAt A o S) {K : Value → Prop} : xgf A o 6 0 K = K (.ref (o + 1)) := xgf_of h.1 rfl
theorem CAt.g1 (h : CAt A o S) {K : Value → Prop} : xgf A o 6 1 K = K (.ref (o + 16)) := xgf_of h.1 rfl
theorem CAt.g2 (h : CAt A o S) {K : Value → Prop} : xgf A o 6 2 K = K (.ref (o + 31)) := xgf_of h.1 rfl
theorem CAt.g3 (h : CAt A o S) {K : Value → Prop} : xgf A o 6 3 K = K (.ref (o + 36)) := xgf_of h.1 rfl
theorem CAt.g4 (h : CAt A o S) {K : Value → Prop} : xgf A o 6 4 K = K (.ref (o + 42)) := xgf_of h.1 rfl
theorem CAt.g5 (h : CAt A o S) {K : Value → Prop} : xgf A o 6 5 K = K (.ref (o + 44)) := xgf_of h.1 rfl
theorem CAt.g6 (h : CAt A o S) {K : Value → Prop} : xgf A o 6 6 K = K (.int (imB S.im)) := xgf_of h.1 rfl
theorem CAt.w0 (h : CAt A o S) {K : Value → Prop} : xgf A (o + 1) 5 0 K = K (.ref (o + 1 + 1)) := xgf_of h.2.1.1 rfl
theorem CAt.w1 (h : CAt A o S) {K : Value → Prop} : xgf A (o + 1) 5 1 K = K (.ref (o + 1 + 6)) := xgf_of h.2.1.1 rfl
theorem CAt.w2 (h : CAt A o S) {K : Value → Prop} : xgf A (o + 1) 5 2 K = K (.ref (o + 1 + 9)) := xgf_of h.2.1.1 rfl
theorem CAt.w3 (h : CAt A o S) {K : Value → Prop} : xgf A (o + 1) 5 3 K = K (.ref (o + 1 + 12)) := xgf_of h.2.1.1 rfl
theorem CAt.L (h : CAt A o S) : LatG A (o + 1 + 1) S.x := h.2.1.2.1
theorem CAt.lc (h : CAt A o S) : xcls A (o + 1 + 1) 1 = True := h.L.cls
theorem CAt.tc (h : CAt A o S) : xcls A (o + 31) 1 = True := by
  obtain ⟨y, h1, _⟩ := h.2.2.2.1
  exact h1.cls
theorem CAt.gc (h : CAt A o S) : xcls A (o + 36) 0 = True := by
  obtain ⟨s, h1⟩ := h.2.2.2.2.1
  exact h1.cls
theorem CAt.xc (h : CAt A o S) : xcls A (o + 42) 3 = True := by
  obtain ⟨s, h1, _⟩ := h.2.2.2.2.2.1
  exact h1.cls
theorem CAt.sc (h : CAt A o S) : xcls A (o + 1 + 6) 2 = True := by
  obtain ⟨f, g, h1, _⟩ := h.2.1.2.2.1
  exact h1.cls
theorem CAt.ec (h : CAt A o S) : xcls A (o + 1 + 9) 2 = True := by
  obtain ⟨f, g, h1, _⟩ := h.2.1.2.2.2.1
  exact h1.cls
theorem CAt.bc (h : CAt A o S) : xcls A (o + 1 + 12) 2 = True := by
  obtain ⟨f, g, h1, _⟩ := h.2.1.2.2.2.2
  exact h1.cls
theorem CAt.wc (h : CAt A o S) : xcls A (o + 1) 5 = True := xcls_of h.2.1.1
theorem CAt.kc (h : CAt A o S) : xcls A (o + 16) 5 = True := by
  obtain ⟨y, q, h1, _⟩ := h.2.2.1
  exact xcls_of h1.1
theorem CAt.O (h : CAt A o S) : S.ok := h.2.2.2.2.2.2.2.2
theorem CAt.al (h : CAt A o S) {K : Int32 → Prop} : xalen A (o + 44) K = K (nI 6) := xalen_of h.2.2.2.2.2.2.1
theorem CAt.ar (h : CAt A o S) {t : Nat} (ht : t < 6) {K : Value → Prop} : xaald A (o + 44) (nI t) K = K (.ref (o + 45 + 2 * t)) := by
  rw [xaald_of h.2.2.2.2.2.2.1 ht (by decide)]
  unfold tpA
  rw [if_pos ht]
  rfl
theorem CAt.P (h : CAt A o S) {t : Nat} (ht : t < 6) : TapG A (o + 45 + 2 * t) (S.T.so t) (S.T.sz t) (S.T.it t) := h.2.2.2.2.2.2.2.1 t ht
theorem CAt.fr {lo hi : Nat} (h : CAt A o S) (F : Fr A B lo hi) (sep : o + 57 ≤ lo ∨ hi ≤ o) : CAt B o S := by
  obtain ⟨h0, h1, ⟨y, q, k1, k2⟩, ⟨z, h3, z3⟩, h4, h5, h6, h7, h8⟩ := h
  exact ⟨by rw [F.2 _ (by omega)]; exact h0, h1.fr F (by omega), ⟨y, q, k1.fr F (by omega), k2⟩, ⟨z, h3.fr F (by omega), z3⟩, h4.fr F (by omega), h5.fr F (by omega), by rw [F.2 _ (by omega)]; exact h6, fun t ht => (h7 t ht).fr F (by omega), h8⟩

theorem CAt.upL (h : CAt A o S) (F : Fr A B (o + 1 + 1) (o + 1 + 1 + 5)) {x2 : sLat} (G : LatG B (o + 1 + 1) x2) (oy : x2.ok) : CAt B o (S.wx x2) := by
  obtain ⟨h0, h1, ⟨y, q, k1, k2⟩, ⟨z, h3, z3⟩, h4, h5, h6, h7, h8⟩ := h
  exact ⟨by rw [F.2 _ (by omega)]; exact h0, ⟨by rw [F.2 _ (by omega)]; exact h1.1, G, h1.2.2.1.fr F (by omega), h1.2.2.2.1.fr F (by omega), h1.2.2.2.2.fr F (by omega)⟩, ⟨y, q, k1.fr F (by omega), k2⟩, ⟨z, h3.fr F (by omega), z3⟩, h4.fr F (by omega), h5.fr F (by omega), by rw [F.2 _ (by omega)]; exact h6, fun t ht => (h7 t ht).fr F (by omega), ⟨oy, h8.2⟩⟩

theorem CAt.upT (h : CAt A o S) (F : Fr A B (o + 31) (o + 31 + 5)) {x2 : sLat} (G : LatG B (o + 31) x2) (oy : x2.ok) : CAt B o (S) := by
  obtain ⟨h0, h1, ⟨y, q, k1, k2⟩, ⟨z, h3, z3⟩, h4, h5, h6, h7, h8⟩ := h
  exact ⟨by rw [F.2 _ (by omega)]; exact h0, h1.fr F (by omega), ⟨y, q, k1.fr F (by omega), k2⟩, ⟨x2, G, oy⟩, h4.fr F (by omega), h5.fr F (by omega), by rw [F.2 _ (by omega)]; exact h6, fun t ht => (h7 t ht).fr F (by omega), h8⟩

theorem CAt.upG (h : CAt A o S) (F : Fr A B (o + 36) (o + 36 + 6)) (G : GraG B (o + 36)) : CAt B o (S) := by
  obtain ⟨h0, h1, ⟨y, q, k1, k2⟩, ⟨z, h3, z3⟩, h4, h5, h6, h7, h8⟩ := h
  exact ⟨by rw [F.2 _ (by omega)]; exact h0, h1.fr F (by omega), ⟨y, q, k1.fr F (by omega), k2⟩, ⟨z, h3.fr F (by omega), z3⟩, G, h5.fr F (by omega), by rw [F.2 _ (by omega)]; exact h6, fun t ht => (h7 t ht).fr F (by omega), h8⟩

theorem CAt.upS (h : CAt A o S) (F : Fr A B (o + 1 + 6) (o + 1 + 6 + 3)) {r2 : sPr} (G : RowG B (o + 1 + 6) 6 r2) (oy : prOk r2 6 35 7) : CAt B o (S.wp (r2, S.p.2)) := by
  obtain ⟨h0, h1, ⟨y, q, k1, k2⟩, ⟨z, h3, z3⟩, h4, h5, h6, h7, h8⟩ := h
  exact ⟨by rw [F.2 _ (by omega)]; exact h0, ⟨by rw [F.2 _ (by omega)]; exact h1.1, h1.2.1.fr F (by omega), G, h1.2.2.2.1.fr F (by omega), h1.2.2.2.2.fr F (by omega)⟩, ⟨y, q, k1.fr F (by omega), k2⟩, ⟨z, h3.fr F (by omega), z3⟩, h4.fr F (by omega), h5.fr F (by omega), by rw [F.2 _ (by omega)]; exact h6, fun t ht => (h7 t ht).fr F (by omega), ⟨h8.1, ⟨oy, h8.2.1.2⟩, h8.2.2⟩⟩

theorem CAt.upE (h : CAt A o S) (F : Fr A B (o + 1 + 9) (o + 1 + 9 + 3)) {r2 : sPr} (G : RowG B (o + 1 + 9) 8 r2) (oy : prOk r2 8 4 99) : CAt B o (S.wp (S.p.S, r2, S.p.K)) := by
  obtain ⟨h0, h1, ⟨y, q, k1, k2⟩, ⟨z, h3, z3⟩, h4, h5, h6, h7, h8⟩ := h
  exact ⟨by rw [F.2 _ (by omega)]; exact h0, ⟨by rw [F.2 _ (by omega)]; exact h1.1, h1.2.1.fr F (by omega), h1.2.2.1.fr F (by omega), G, h1.2.2.2.2.fr F (by omega)⟩, ⟨y, q, k1.fr F (by omega), k2⟩, ⟨z, h3.fr F (by omega), z3⟩, h4.fr F (by omega), h5.fr F (by omega), by rw [F.2 _ (by omega)]; exact h6, fun t ht => (h7 t ht).fr F (by omega), ⟨h8.1, ⟨h8.2.1.1, oy, h8.2.1.2.2⟩, h8.2.2⟩⟩

theorem CAt.upK (h : CAt A o S) (F : Fr A B (o + 1 + 12) (o + 1 + 12 + 3)) {r2 : sPr} (G : RowG B (o + 1 + 12) 8 r2) (oy : prOk r2 8 35 7) : CAt B o (S.wp (S.p.S, S.p.E, r2)) := by
  obtain ⟨h0, h1, ⟨y, q, k1, k2⟩, ⟨z, h3, z3⟩, h4, h5, h6, h7, h8⟩ := h
  exact ⟨by rw [F.2 _ (by omega)]; exact h0, ⟨by rw [F.2 _ (by omega)]; exact h1.1, h1.2.1.fr F (by omega), h1.2.2.1.fr F (by omega), h1.2.2.2.1.fr F (by omega), G⟩, ⟨y, q, k1.fr F (by omega), k2⟩, ⟨z, h3.fr F (by omega), z3⟩, h4.fr F (by omega), h5.fr F (by omega), by rw [F.2 _ (by omega)]; exact h6, fun t ht => (h7 t ht).fr F (by omega), ⟨h8.1, ⟨h8.2.1.1, h8.2.1.2.1, oy⟩, h8.2.2⟩⟩

theorem CAt.upX (h : CAt A o S) (F : Fr A B (o + 42) (o + 42 + 2)) {f2 : Nat → Nat} {n2 : Nat} (G : TxtG B (o + 42) f2 n2) (hn : n2 ≤ 100) (hf : ∀ i, f2 i < 128) : CAt B o (S.wt f2 n2) := by
  obtain ⟨h0, h1, ⟨y, q, k1, k2⟩, ⟨z, h3, z3⟩, h4, h5, h6, h7, h8⟩ := h
  exact ⟨by rw [F.2 _ (by omega)]; exact h0, h1.fr F (by omega), ⟨y, q, k1.fr F (by omega), k2⟩, ⟨z, h3.fr F (by omega), z3⟩, h4.fr F (by omega), G, by rw [F.2 _ (by omega)]; exact h6, fun t ht => (h7 t ht).fr F (by omega), ⟨h8.1, h8.2.1, h8.2.2.1, hn, hf, h8.2.2.2.2.2⟩⟩

theorem CAt.upP (h : CAt A o S) {t : Nat} (ht : t < 6) (F : Fr A B (o + 45 + 2 * t) (o + 45 + 2 * t + 2)) {U : sTp} (G : TapG B (o + 45 + 2 * t) (U.so t) (U.sz t) (U.it t)) (hU : ∀ u, u ≠ t → U.so u = S.T.so u ∧ U.sz u = S.T.sz u ∧ U.it u = S.T.it u) (oU : U.ok) : CAt B o (S.wT U) := by
  obtain ⟨h0, h1, ⟨y, q, k1, k2⟩, ⟨z, h3, z3⟩, h4, h5, h6, h7, h8⟩ := h
  refine ⟨by rw [F.2 _ (by omega)]; exact h0, h1.fr F (by omega), ⟨y, q, k1.fr F (by omega), k2⟩, ⟨z, h3.fr F (by omega), z3⟩, h4.fr F (by omega), h5.fr F (by omega), by rw [F.2 _ (by omega)]; exact h6, fun u hu => ?_, ⟨h8.1, h8.2.1, oU, h8.2.2.2⟩⟩
  by_cases e : u = t
  · subst e
    exact G
  · show TapG B (o + 45 + 2 * u) (U.so u) (U.sz u) (U.it u)
    obtain ⟨e1, e2, e3⟩ := hU u e
    rw [e1, e2, e3]
    exact (h7 u hu).fr F (by omega)
theorem LatG.toAt {b : Nat} {x : sLat} (h : LatG A b x) : ∃ lk pr, LatAt A b x lk pr ∧ LkOK x lk ∧ PrOK x pr := h
/-- grains are found: what the class then holds -/
theorem g_find (h : CAt A o S) {Q : Option Value → xH → Prop} (k : ∀ (B : xH) (s : sGra), Fr A B (o + 36) (o + 36 + 6) → GraAt B (o + 36) s → GrOK S.x s → CAt B o S → Q none B) : XC MX0_find [.ref (o + 36), .ref (o + 1 + 1)] A Q := by
  obtain ⟨s, hg⟩ := h.2.2.2.2.1
  obtain ⟨lk, pr, h1, h2, h3⟩ := h.L
  exact c_find hg h1 (by omega) h.O.1 h2 (fun s' g1 => k _ s' hg.F (hg.put s') g1 (h.upG hg.F ⟨s', hg.put s'⟩))
end CAT
