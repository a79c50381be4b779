/-! the reference's methods, over all that it holds -/
theorem ModAt.F {A : xH} {m : Nat} {s s2 : sMod} (h : ModAt A m s) : Fr A (modP A m s2) m (m + 16) := Fr.blk h.lt rfl
def MR (S : sCls) (s : sMod) : Prop := TpM S.T s ∧ s.wr = nI S.n ∧ (∀ i, i < S.n → s.tx i = nI (S.f i)) ∧ s.kz ∧ (∀ i, 113 ≤ i → s.im i = 0) ∧ s.hI = imB S.im ∧ ∀ z, S.im = some z → ∃ r2, s.im = nF z.1 r2 ∧ RwM z.2 r2
section MPU
variable {AH : xH} {m : Nat} {S : sCls}
theorem MR.pq {s s' : sMod} (h : MR S s) (q : s'.pq s) : MR S s' := by
  obtain ⟨h1, h2, h3, h4, h5, h6, h7⟩ := h
  obtain ⟨q1, q2, q3, q4, q5, q6, q7, q8, q9⟩ := q
  refine ⟨⟨fun t ht => by rw [q7]; exact h1.1 t ht, fun t ht => by rw [q8]; exact h1.2.1 t ht, fun t i ht hi => by rw [q6]; exact h1.2.2 t i ht hi⟩, q5.trans h2, fun i hi => by rw [q4]; exact h3 i hi, q9 h4, fun i hi => by rw [q2]; exact h5 i hi, q3.trans h6, fun z hz => ?_⟩
  rw [q2]
  exact h7 z hz
theorem MAt.pq {s s' : sMod} {r : sRow} (h1 : MoL AH m s S.x r) (h2 : RwM S.p r) (h3 : MR S s) (q : s'.pq s) : MAt (modP AH m s') m S := ⟨s', r, ⟨h1.1.put s', q.1.trans h1.2⟩, h2, h3.pq q⟩
theorem MAt.wx {s : sMod} {r : sRow} (h1 : MoL AH m s S.x r) (h2 : RwM S.p r) (h3 : MR S s) (y : sLat) : MAt (modP AH m (s.wnw (nF y r))) m (S.wx y) := ⟨_, r, h1.put y r, h2, h3⟩
theorem MAt.wp {s : sMod} {r r' : sRow} (h1 : MoL AH m s S.x r) (h3 : MR S s) {q : sRw} (h2 : RwM q r') : MAt (modP AH m (s.wnw (nF S.x r'))) m (S.wp q) := ⟨_, r', h1.put S.x r', h2, h3⟩
theorem MAt.wT {s : sMod} {r : sRow} (h1 : MoL AH m s S.x r) (h2 : RwM S.p r) (h3 : MR S s) {U : sTp} {a b : Nat → Int32} {c : Nat → Int64} (hU : TpM U (s.tq a b c)) : MAt (modP AH m (s.tq a b c)) m (S.wT U) := ⟨_, r, ⟨h1.1.put _, h1.2⟩, h2, hU, h3.2⟩
theorem m_size (h : MAt AH m S) (O : S.ok) {a b : Int32} {Q : Option Value → xH → Prop} (k : ∀ A, Fr AH A m (m + 16) → MAt A m (S.wx (S.x.sSize a b).2) → Q (some (.int ((S.x.sSize a b).1))) A) : XC MX7_size [.ref m, .int a, .int b] AH Q := by
  obtain ⟨s, r, h1, h2, h3⟩ := id h
  exact d_size h1 O.1 (k _ h1.1.F (MAt.wx h1 h2 h3 _))
theorem m_mark (h : MAt AH m S) (O : S.ok) {a b : Int32} {Q : Option Value → xH → Prop} (k : ∀ A, Fr AH A m (m + 16) → MAt A m (S.wx (S.x.sMark a b).2) → Q (some (.int ((S.x.sMark a b).1))) A) : XC MX7_mark [.ref m, .int a, .int b] AH Q := by
  obtain ⟨s, r, h1, h2, h3⟩ := id h
  exact d_mark h1 O.1 (k _ h1.1.F (MAt.wx h1 h2 h3 _))
theorem m_pin (h : MAt AH m S) (O : S.ok) {a b : Int32} {Q : Option Value → xH → Prop} (k : ∀ A, Fr AH A m (m + 16) → MAt A m (S.wx (S.x.sPin a b).2) → Q (some (.int ((S.x.sPin a b).1))) A) : XC MX7_pin [.ref m, .int a, .int b] AH Q := by
  obtain ⟨s, r, h1, h2, h3⟩ := id h
  exact d_pin h1 O.1 (k _ h1.1.F (MAt.wx h1 h2 h3 _))
theorem m_set (h : MAt AH m S) (O : S.ok) {a b : Int32} {Q : Option Value → xH → Prop} (k : ∀ A, Fr AH A m (m + 16) → MAt A m (S.wx (S.x.sSet a b).2) → Q (some (.int ((S.x.sSet a b).1))) A) : XC MX7_set [.ref m, .int a, .int b] AH Q := by
  obtain ⟨s, r, h1, h2, h3⟩ := id h
  exact d_set h1 (k _ h1.1.F (MAt.wx h1 h2 h3 _))
theorem m_price (h : MAt AH m S) (O : S.ok) {a b : Int32} {Q : Option Value → xH → Prop} (k : ∀ A, Fr AH A m (m + 16) → MAt A m (S.wx (S.x.sPrice a b).2) → Q (some (.int ((S.x.sPrice a b).1))) A) : XC MX7_price [.ref m, .int a, .int b] AH Q := by
  obtain ⟨s, r, h1, h2, h3⟩ := id h
  exact d_price h1 (k _ h1.1.F (MAt.wx h1 h2 h3 _))
theorem m_seed (h : MAt AH m S) (O : S.ok) {a : Int32} {Q : Option Value → xH → Prop} (k : ∀ A, Fr AH A m (m + 16) → MAt A m (S.wx (S.x.wse a)) → Q (some (.int (S.x.se))) A) : XC MX7_seed [.ref m, .int a] AH Q := by
  obtain ⟨s, r, h1, h2, h3⟩ := id h
  exact d_seed h1 (k _ h1.1.F (MAt.wx h1 h2 h3 _))
theorem m_change (h : MAt AH m S) (O : S.ok) {a b : Int32} {Q : Option Value → xH → Prop} (k : ∀ A, Fr AH A m (m + 16) → MAt A m (S.wx (S.x.aChg a b).2) → Q (some (.int ((S.x.aChg a b).1))) A) : XC MX7_change [.ref m, .int a, .int b] AH Q := by
  obtain ⟨s, r, h1, h2, h3⟩ := id h
  refine d_change h1 O.1 ?_
  unfold sLat.aChg at k
  cases hc : ix S.x.n a with
  | none =>
    simp only [hc] at k ⊢
    exact k AH (Fr.rf _ _ _) h
  | some j =>
    cases hv : ix 8 b with
    | none =>
      simp only [hc, hv] at k ⊢
      exact k AH (Fr.rf _ _ _) h
    | some q =>
      simp only [hc, hv] at k ⊢
      exact k _ h1.1.F (MAt.wx h1 h2 h3 _)
theorem m_tries (h : MAt AH m S) (O : S.ok) {a : Int32} {Q : Option Value → xH → Prop} (k : ∀ A, Fr AH A m (m + 16) → MAt A m (S.wx (S.x.aTri a).2) → Q (some (.int ((S.x.aTri a).1))) A) : XC MX7_tries [.ref m, .int a] AH Q := by
  obtain ⟨s, r, h1, h2, h3⟩ := id h
  refine d_tries h1 O.1 ?_
  unfold sLat.aTri at k
  cases hc : rg 0 200 a with
  | none =>
    simp only [hc] at k ⊢
    exact k AH (Fr.rf _ _ _) h
  | some j =>
    simp only [hc] at k ⊢
    exact k _ h1.1.F (MAt.wx h1 h2 h3 _)
theorem m_cool (h : MAt AH m S) (O : S.ok) {a : Int32} {Q : Option Value → xH → Prop} (k : ∀ A, Fr AH A m (m + 16) → MAt A m (S.wx (S.x.aCoo a).2) → Q (some (.int ((S.x.aCoo a).1))) A) : XC MX7_cool [.ref m, .int a] AH Q := by
  obtain ⟨s, r, h1, h2, h3⟩ := id h
  refine d_cool h1 O.1 ?_
  unfold sLat.aCoo at k
  cases hc : rg 0 30 a with
  | none =>
    simp only [hc] at k ⊢
    exact k AH (Fr.rf _ _ _) h
  | some j =>
    simp only [hc] at k ⊢
    exact k _ h1.1.F (MAt.wx h1 h2 h3 _)
theorem m_beside (h : MAt AH m S) (O : S.ok) {a b : Int32} {Q : Option Value → xH → Prop} (k : ∀ A, Fr AH A m (m + 16) → MAt A m (S) → Q (some (.int (S.x.aBes a b))) A) : XC MX7_beside_ [.ref m, .int a, .int b] AH Q := by
  obtain ⟨s, r, h1, h2, h3⟩ := id h
  exact d_bes h1 O.1 (k AH (Fr.rf _ _ _) h)
theorem m_costs (h : MAt AH m S) (O : S.ok) {a b : Int32} {Q : Option Value → xH → Prop} (k : ∀ A, Fr AH A m (m + 16) → MAt A m (S) → Q (some (.int (S.x.aCost a b))) A) : XC MX7_costs [.ref m, .int a, .int b] AH Q := by
  obtain ⟨s, r, h1, h2, h3⟩ := id h
  exact d_cost h1 O.1 (k AH (Fr.rf _ _ _) h)
theorem m_more (h : MAt AH m S) (O : S.ok) {a b : Int32} {Q : Option Value → xH → Prop} (k : ∀ A, Fr AH A m (m + 16) → MAt A m (S) → Q (some (.int (S.x.aMore a b))) A) : XC MX7_more [.ref m, .int a, .int b] AH Q := by
  obtain ⟨s, r, h1, h2, h3⟩ := id h
  exact d_more h1 O.1 (k AH (Fr.rf _ _ _) h)
theorem m_share (h : MAt AH m S) (O : S.ok) {a : Int32} {Q : Option Value → xH → Prop} (k : ∀ A, Fr AH A m (m + 16) → MAt A m (S) → Q (some (.int (S.x.aShr a))) A) : XC MX7_share [.ref m, .int a] AH Q := by
  obtain ⟨s, r, h1, h2, h3⟩ := id h
  exact d_share h1 O.1 (k AH (Fr.rf _ _ _) h)
theorem m_best (h : MAt AH m S) (O : S.ok) {a : Int32} {Q : Option Value → xH → Prop} (k : ∀ A, Fr AH A m (m + 16) → MAt A m (S) → Q (some (.int (S.x.aBst a))) A) : XC MX7_best [.ref m, .int a] AH Q := by
  obtain ⟨s, r, h1, h2, h3⟩ := id h
  exact d_best h1 O.1 (k AH (Fr.rf _ _ _) h)
theorem m_odds (h : MAt AH m S) (O : S.ok) {a : Int32} {Q : Option Value → xH → Prop} (k : ∀ A, Fr AH A m (m + 16) → MAt A m (S) → Q (some (.long (S.x.aOdd a))) A) : XC MX7_odds [.ref m, .int a] AH Q := by
  obtain ⟨s, r, h1, h2, h3⟩ := id h
  exact d_odds h1 O.1 (k AH (Fr.rf _ _ _) h)
theorem m_peek (h : MAt AH m S) (O : S.ok) {a b : Int32} {Q : Option Value → xH → Prop} (k : ∀ A, Fr AH A m (m + 16) → MAt A m (S) → Q (some (.long (S.T.aPeek a b))) A) : XC MX7_peek [.ref m, .int a, .int b] AH Q := by
  obtain ⟨s, r, h1, h2, h3⟩ := id h
  exact d_peek h1.1 h3.1 O.2.2.1 (k AH (Fr.rf _ _ _) h)
theorem m_judge (h : MAt AH m S) (O : S.ok) {a b : Int32} {Q : Option Value → xH → Prop} (k : ∀ A, Fr AH A m (m + 16) → MAt A m (S) → Q (some (.int (S.T.aJud S.x a b))) A) : XC MX7_judge [.ref m, .int a, .int b] AH Q := by
  obtain ⟨s, r, h1, h2, h3⟩ := id h
  exact d_judge h1 O.1 h3.1 O.2.2.1 (k AH (Fr.rf _ _ _) h)
theorem m_looked (h : MAt AH m S) (O : S.ok) {Q : Option Value → xH → Prop} (k : ∀ A, Fr AH A m (m + 16) → MAt A m (S) → Q (some (.int (lkV (unF S.p.K.1 S.x S.p.K.2)))) A) : XC MX7_looked [.ref m] AH Q := by
  obtain ⟨s, r, h1, h2, h3⟩ := id h
  exact d_looked h1 O.1 h2 O.2.1 (k AH (Fr.rf _ _ _) h)
theorem m_count (h : MAt AH m S) (O : S.ok) {a : Int32} {Q : Option Value → xH → Prop} (k : ∀ A, Fr AH A m (m + 16) → MAt A m (S) → Q (some (.int (aCnt S.p S.n a))) A) : XC MX7_count [.ref m, .int a] AH Q := by
  obtain ⟨s, r, h1, h2, h3⟩ := id h
  exact d_count h1 h2 h3.2.1 (k AH (Fr.rf _ _ _) h)
theorem m_of (h : MAt AH m S) (O : S.ok) {a b : Int32} {Q : Option Value → xH → Prop} (k : ∀ A, Fr AH A m (m + 16) → MAt A m (S) → Q (some (.int (S.x.aOf a b))) A) : XC MX7_of [.ref m, .int a, .int b] AH Q := by
  obtain ⟨s, r, h1, h2, h3⟩ := id h
  exact d_of h1 O.1 (fun s' e => k _ h1.1.F (MAt.pq h1 h2 h3 e.pq))
theorem m_told (h : MAt AH m S) (O : S.ok) {a : Int32} {Q : Option Value → xH → Prop} (k : ∀ A, Fr AH A m (m + 16) → MAt A m (S) → Q (some (.int (S.x.aTold a))) A) : XC MX7_told [.ref m, .int a] AH Q := by
  obtain ⟨s, r, h1, h2, h3⟩ := id h
  exact d_told h1 O.1 (fun s' e => k _ h1.1.F (MAt.pq h1 h2 h3 e.pq))
theorem m_large (h : MAt AH m S) (O : S.ok) {a : Int32} {Q : Option Value → xH → Prop} (k : ∀ A, Fr AH A m (m + 16) → MAt A m (S) → Q (some (.int (S.x.aLrg a))) A) : XC MX7_large [.ref m, .int a] AH Q := by
  obtain ⟨s, r, h1, h2, h3⟩ := id h
  exact d_large h1 O.1 (fun s' e => k _ h1.1.F (MAt.pq h1 h2 h3 e.pq))
theorem m_grain (h : MAt AH m S) (O : S.ok) {a b : Int32} {Q : Option Value → xH → Prop} (k : ∀ A, Fr AH A m (m + 16) → MAt A m (S) → Q (some (.int (S.x.aGrn a b))) A) : XC MX7_grain [.ref m, .int a, .int b] AH Q := by
  obtain ⟨s, r, h1, h2, h3⟩ := id h
  exact d_grain h1 O.1 (fun s' e => k _ h1.1.F (MAt.pq h1 h2 h3 e.pq))
theorem m_meets (h : MAt AH m S) (O : S.ok) {a b : Int32} {Q : Option Value → xH → Prop} (k : ∀ A, Fr AH A m (m + 16) → MAt A m (S) → Q (some (.int (S.x.aMts a b))) A) : XC MX7_meets [.ref m, .int a, .int b] AH Q := by
  obtain ⟨s, r, h1, h2, h3⟩ := id h
  exact d_meets h1 O.1 (fun s' e => k _ h1.1.F (MAt.pq h1 h2 h3 e.pq))
theorem m_walls (h : MAt AH m S) (O : S.ok) {a b : Int32} {Q : Option Value → xH → Prop} (k : ∀ A, Fr AH A m (m + 16) → MAt A m (S) → Q (some (.int (S.x.aWal a b))) A) : XC MX7_walls [.ref m, .int a, .int b] AH Q := by
  obtain ⟨s, r, h1, h2, h3⟩ := id h
  exact d_walls h1 O.1 (fun s' e => k _ h1.1.F (MAt.pq h1 h2 h3 e.pq))
theorem m_mean (h : MAt AH m S) (O : S.ok) {a : Int32} {Q : Option Value → xH → Prop} (k : ∀ A, Fr AH A m (m + 16) → MAt A m (S) → Q (some (.long (S.x.aMean a))) A) : XC MX7_mean [.ref m, .int a] AH Q := by
  obtain ⟨s, r, h1, h2, h3⟩ := id h
  exact d_mean h1 O.1 (fun s' e => k _ h1.1.F (MAt.pq h1 h2 h3 e.pq))
theorem m_gone (h : MAt AH m S) (O : S.ok) {a : Int32} {Q : Option Value → xH → Prop} (k : ∀ A, Fr AH A m (m + 16) → MAt A m (S) → Q (some (.int (S.x.aGon a))) A) : XC MX7_gone [.ref m, .int a] AH Q := by
  obtain ⟨s, r, h1, h2, h3⟩ := id h
  exact d_gone h1 O.1 h3.2.2.2.1 (fun s' e => k _ h1.1.F (MAt.pq h1 h2 h3 e))
theorem m_cold (h : MAt AH m S) (O : S.ok) {a : Int32} {Q : Option Value → xH → Prop} (k : ∀ A, Fr AH A m (m + 16) → MAt A m (S) → Q (some (.int (S.x.aCol a))) A) : XC MX7_cold [.ref m, .int a] AH Q := by
  obtain ⟨s, r, h1, h2, h3⟩ := id h
  exact d_cold h1 O.1 h3.2.2.2.1 (fun s' e => k _ h1.1.F (MAt.pq h1 h2 h3 e))
theorem m_fits (h : MAt AH m S) (O : S.ok) {a b : Int32} {Q : Option Value → xH → Prop} (k : ∀ A, Fr AH A m (m + 16) → MAt A m (S) → Q (some (.int (S.x.aFit S.p.S a b))) A) : XC MX7_fits [.ref m, .int a, .int b] AH Q := by
  obtain ⟨s, r, h1, h2, h3⟩ := id h
  exact d_fits h1 O.1 h3.2.2.2.1 h2 O.2.1 (fun s' e => k _ h1.1.F (MAt.pq h1 h2 h3 e))
theorem m_after (h : MAt AH m S) (O : S.ok) {a : Int32} {Q : Option Value → xH → Prop} (k : ∀ A, Fr AH A m (m + 16) → MAt A m (S) → Q (some (.int (S.x.aAft S.p.E a))) A) : XC MX7_after [.ref m, .int a] AH Q := by
  obtain ⟨s, r, h1, h2, h3⟩ := id h
  exact d_after h1 O.1 h3.2.2.2.1 h2 O.2.1 (fun s' e => k _ h1.1.F (MAt.pq h1 h2 h3 e))
theorem m_worth (h : MAt AH m S) (O : S.ok) {v : Int64} {Q : Option Value → xH → Prop} (k : ∀ A, Fr AH A m (m + 16) → MAt A m (S) → Q (some (.long (S.x.aWor v))) A) : XC MX7_worth [.ref m, .long v] AH Q := by
  obtain ⟨s, r, h1, h2, h3⟩ := id h
  exact d_worth h1 O.1 (fun s' e => k _ h1.1.F (MAt.pq h1 h2 h3 e))
theorem m_see (h : MAt AH m S) (O : S.ok) {a b : Int32} {Q : Option Value → xH → Prop} (k : ∀ A, Fr AH A m (m + 16) → MAt A m (S.wp ((S.x.cm S.p.S 6 a b).2, S.p.2)) → Q (some (.int ((S.x.cm S.p.S 6 a b).1))) A) : XC MX7_see [.ref m, .int a, .int b] AH Q := by
  obtain ⟨s, r, h1, h2, h3⟩ := id h
  exact d_see h1 O.1 h2 O.2.1 (fun r' e => k _ h1.1.F (MAt.wp h1 h3 e))
theorem m_book (h : MAt AH m S) (O : S.ok) {a b : Int32} {Q : Option Value → xH → Prop} (k : ∀ A, Fr AH A m (m + 16) → MAt A m (S.wp (S.p.S, S.p.E, (S.x.cm S.p.K 8 a b).2)) → Q (some (.int ((S.x.cm S.p.K 8 a b).1))) A) : XC MX7_book [.ref m, .int a, .int b] AH Q := by
  obtain ⟨s, r, h1, h2, h3⟩ := id h
  exact d_book h1 O.1 h2 O.2.1 (fun r' e => k _ h1.1.F (MAt.wp h1 h3 e))
theorem m_event (h : MAt AH m S) (O : S.ok) {a b : Int32} {Q : Option Value → xH → Prop} (k : ∀ A, Fr AH A m (m + 16) → MAt A m (S.wp (S.p.S, (S.x.evA S.p.E a b).2, S.p.K)) → Q (some (.int ((S.x.evA S.p.E a b).1))) A) : XC MX7_event [.ref m, .int a, .int b] AH Q := by
  obtain ⟨s, r, h1, h2, h3⟩ := id h
  exact d_event h1 O.1 h2 O.2.1 (fun r' e => k _ h1.1.F (MAt.wp h1 h3 e))
theorem m_tape (h : MAt AH m S) (O : S.ok) {a b c : Int32} {Q : Option Value → xH → Prop} (k : ∀ A, Fr AH A m (m + 16) → MAt A m (S.wT (S.T.aTape a b c).2) → Q (some (.int ((S.T.aTape a b c).1))) A) : XC MX7_tape [.ref m, .int a, .int b, .int c] AH Q := by
  obtain ⟨s, r, h1, h2, h3⟩ := id h
  exact d_tape h1.1 h3.1 O.2.2.1 (fun a' b' c' e => k _ h1.1.F (MAt.wT h1 h2 h3 e))
theorem m_item (h : MAt AH m S) (O : S.ok) {a b : Int32} {v : Int64} {Q : Option Value → xH → Prop} (k : ∀ A, Fr AH A m (m + 16) → MAt A m (S.wT (S.T.aItem a b v).2) → Q (some (.int ((S.T.aItem a b v).1))) A) : XC MX7_item [.ref m, .int a, .int b, .long v] AH Q := by
  obtain ⟨s, r, h1, h2, h3⟩ := id h
  exact d_item h1.1 h3.1 O.2.2.1 (fun a' b' c' e => k _ h1.1.F (MAt.wT h1 h2 h3 e))
theorem m_shift (h : MAt AH m S) (O : S.ok) {a b c d e : Int32} {Q : Option Value → xH → Prop} (k : ∀ A, Fr AH A m (m + 16) → MAt A m (S.wT (S.T.aShift a b c d e).2) → Q (some (.int ((S.T.aShift a b c d e).1))) A) : XC MX7_shift [.ref m, .int a, .int b, .int c, .int d, .int e] AH Q := by
  obtain ⟨s, r, h1, h2, h3⟩ := id h
  exact d_shift h1.1 h3.1 O.2.2.1 (fun a' b' c' e' => k _ h1.1.F (MAt.wT h1 h2 h3 e'))
theorem m_feed (h : MAt AH m S) (O : S.ok) {a : Int32} {Q : Option Value → xH → Prop} (k : ∀ A, Fr AH A m (m + 16) → MAt A m (S.wt (aFeed S.f S.n a).2.1 (aFeed S.f S.n a).2.2) → Q (some (.int ((aFeed S.f S.n a).1))) A) : XC MX7_feed [.ref m, .int a] AH Q := by
  obtain ⟨s, r, h1, h2, h3⟩ := id h
  exact d_feed h1.1 h3.2.1 O.2.2.2.1 h3.2.2.1 (fun g e => k _ h1.1.F ⟨_, r, ⟨h1.1.put _, h1.2⟩, h2, h3.1, rfl, e, h3.2.2.2⟩)
theorem m_read (h : MAt AH m S) (O : S.ok) {Q : Option Value → xH → Prop} (k : ∀ A, Fr AH A m (m + 16) → MAt A m ((S.wx (S.x.aRead S.f S.n).2).wt S.f 0) → Q (some (.int ((S.x.aRead S.f S.n).1))) A) : XC MX7_read [.ref m] AH Q := by
  obtain ⟨s, r, h1, h2, h3⟩ := id h
  exact d_read h1 O.1 h3.2.1 O.2.2.2.1 h3.2.2.1 O.2.2.2.2.1 (fun a le nb => k _ h1.1.F ⟨_, r, ⟨h1.1.put _, rfl⟩, h2, h3.1, rfl, fun i hi => absurd hi (Nat.not_lt_zero i), h3.2.2.2⟩)
theorem m_image (h : MAt AH m S) (O : S.ok) {Q : Option Value → xH → Prop} (k : ∀ A, Fr AH A m (m + 16) → MAt A m (S.wim (some (S.x, S.p))) → Q (some (.int (nI S.x.B))) A) : XC MX7_image [.ref m] AH Q := by
  obtain ⟨s, r, h1, h2, h3⟩ := id h
  exact d_image h1 O.1 h3.2.2.2.2.1 (k _ h1.1.F ⟨_, r, ⟨h1.1.put _, h1.2⟩, h2, h3.1, h3.2.1, h3.2.2.1, h3.2.2.2.1, fun i hi => nF_out hi, rfl, fun z hz => by cases hz; exact ⟨r, rfl, h2⟩⟩)
theorem m_undo (h : MAt AH m S) (O : S.ok) {Q : Option Value → xH → Prop} (k : ∀ A, Fr AH A m (m + 16) → MAt A m (S.aUndo.2) → Q (some (.int (S.aUndo.1))) A) : XC MX7_undo [.ref m] AH Q := by
  obtain ⟨s, r, h1, h2, h3⟩ := id h
  unfold sCls.aUndo at k
  cases hi : S.im with
  | none =>
    simp only [hi] at k
    exact d_undo0 h1.1 (by rw [h3.2.2.2.2.2.1, hi]; rfl) (k AH (Fr.rf _ _ _) h)
  | some z =>
    simp only [hi] at k
    obtain ⟨r2, e1, e2⟩ := h3.2.2.2.2.2.2 z hi
    exact d_undo1 h1.1 (by rw [h3.2.2.2.2.2.1, hi]; rfl) e1 (O.2.2.2.2.2 z hi).1 (fun i hi => by rw [h1.2]; exact nF_out hi) (k _ h1.1.F ⟨_, r2, ⟨h1.1.put _, rfl⟩, e2, h3⟩)
end MPU
