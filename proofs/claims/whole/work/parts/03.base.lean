/-! the abstract machine: cells by their numbers, values whose references are such numbers -/
abbrev xE : Type := vp_A ⊕ (Nat × List Value)
abbrev xH : Type := List xE
abbrev xL : Type := List (Option Value)
abbrev xM : Type := MethodName × ByteArray × Nat × Option FieldType × Room
abbrev xZ : Type := Option (Nat × (Nat → Int32))
abbrev xQ : Type := Option Value → xH → Nat × Nat → Prop
abbrev xK : Type := Nat → xL → List Value → xH → Nat × Nat → Prop
abbrev xOp : Type := xL → List Value → xH → Nat × Nat → xK → xQ → Prop
def xv (ad st : Nat → Nat) : Value → Value
  | .ref a => .ref (ad a)
  | .float k => .ref (st k.toNat)
  | v => v
def xar (ad : Nat → Nat) : vp_A → vp_A
  | (n, .inr (.inr (.inr (.inr f)))) => (n, .inr (.inr (.inr (.inr (fun j => (f j).map ad)))))
  | a => a
def xk : vp_A → Nat
  | (_, .inl _) => 0
  | (_, .inr (.inl _)) => 1
  | _ => 2
def xe (ad st : Nat → Nat) (cA : Nat → ClassId) : xE → va_E
  | .inl a => .inl (cA (xk a), xar ad a)
  | .inr o => .inr (o.1, o.2.map (xv ad st))
def xw (ad st : Nat → Nat) (cA : Nat → ClassId) (AH : xH) : va_W := AH.mapIdx fun i e => (ad i, xe ad st cA e)
theorem xw_get {ad st : Nat → Nat} {cA : Nat → ClassId} {AH : xH} {i : Nat} {e : xE} (h : AH[i]? = some e) : (xw ad st cA AH)[i]? = some (ad i, xe ad st cA e) := by
  simp [xw, List.getElem?_mapIdx, h]
theorem xw_len {ad st : Nat → Nat} {cA : Nat → ClassId} {AH : xH} : (xw ad st cA AH).length = AH.length := by simp [xw]
theorem xw_set {ad st : Nat → Nat} {cA : Nat → ClassId} {AH : xH} {i : Nat} {e : xE} : xw ad st cA (AH.set i e) = (xw ad st cA AH).set i (ad i, xe ad st cA e) := by
  apply List.ext_getElem?
  intro j
  simp only [xw, List.getElem?_mapIdx, List.getElem?_set, List.length_mapIdx]
  by_cases h : i = j
  · subst h
    by_cases h2 : i < AH.length <;> simp [h2]
  · simp [h]
theorem xw_app {ad st : Nat → Nat} {cA : Nat → ClassId} {AH : xH} {e : xE} : xw ad st cA (AH ++ [e]) = xw ad st cA AH ++ [(ad AH.length, xe ad st cA e)] := by
  simp [xw, List.mapIdx_append]
theorem xw_of {ad st : Nat → Nat} {cA : Nat → ClassId} {AH : xH} {i : Nat} {q : Nat × va_E} (h : (xw ad st cA AH)[i]? = some q) : ∃ e, AH[i]? = some e ∧ q = (ad i, xe ad st cA e) := by
  simp only [xw, List.getElem?_mapIdx] at h
  cases h2 : AH[i]? with
  | none => simp [h2] at h
  | some e => simp [h2] at h; exact ⟨e, rfl, h.symm⟩
/-! references that are numbers of cells -/
def xvV (n : Nat) : Value → Prop
  | .ref a => a < n
  | _ => True
def xvE (n : Nat) : xE → Prop
  | .inr o => ∀ v ∈ o.2, xvV n v
  | .inl (_, .inr (.inr (.inr (.inr f)))) => ∀ j a, f j = some a → a < n
  | _ => True
def xvH (AH : xH) : Prop := ∀ (i : Nat) (e : xE), AH[i]? = some e → xvE AH.length e
theorem xvV.mono {n k : Nat} (h : n ≤ k) {v : Value} (hv : xvV n v) : xvV k v := by
  cases v with
  | ref a => exact Nat.lt_of_lt_of_le hv h
  | _ => trivial
theorem xvE.mono {n k : Nat} (h : n ≤ k) {e : xE} (hv : xvE n e) : xvE k e := by
  rcases e with ⟨m, a⟩ | o
  · rcases a with f | f | f | f | f
    · trivial
    · trivial
    · trivial
    · trivial
    · exact fun j a hj => Nat.lt_of_lt_of_le (hv j a hj) h
  · exact fun v hm => (hv v hm).mono h
theorem xv_cat (ad st : Nat → Nat) (v : Value) : (xv ad st v).category = v.category := by cases v <;> rfl
theorem xv_eq {ad ad' st : Nat → Nat} {n : Nat} (h : ∀ i, i < n → ad' i = ad i) {v : Value} (hv : xvV n v) : xv ad' st v = xv ad st v := by
  cases v <;> simp_all [xv, xvV]
theorem xvs_eq {ad ad' st : Nat → Nat} {n : Nat} (h : ∀ i, i < n → ad' i = ad i) {S : List Value} (hv : ∀ v ∈ S, xvV n v) : S.map (xv ad' st) = S.map (xv ad st) :=
  List.map_congr_left fun v hm => xv_eq h (hv v hm)
theorem xe_eq {ad ad' st : Nat → Nat} {cA : Nat → ClassId} {n : Nat} (h : ∀ i, i < n → ad' i = ad i) {e : xE} (hv : xvE n e) : xe ad' st cA e = xe ad st cA e := by
  rcases e with ⟨m, a⟩ | o
  · rcases a with f | f | f | f | f
    · rfl
    · rfl
    · rfl
    · rfl
    · have : (fun j => (f j).map ad') = (fun j => (f j).map ad) := by
        funext j
        cases hj : f j with
        | none => rfl
        | some a => simp [h a (hv j a hj)]
      simp [xe, xar, xk, this]
  · simp only [xe]
    rw [xvs_eq h hv]
theorem xw_eq {ad ad' st : Nat → Nat} {cA : Nat → ClassId} {AH : xH} (h : ∀ i, i < AH.length → ad' i = ad i) (hv : xvH AH) : xw ad' st cA AH = xw ad st cA AH := by
  apply List.ext_getElem?
  intro j
  simp only [xw, List.getElem?_mapIdx]
  cases h2 : AH[j]? with
  | none => rfl
  | some e =>
    have hj : j < AH.length := (List.getElem?_eq_some_iff.mp h2).1
    simp [h j hj, xe_eq h (hv j e h2)]
theorem xvH.set {AH : xH} {i : Nat} {e : xE} (h : xvH AH) (he : xvE AH.length e) : xvH (AH.set i e) := by
  intro j e' hj
  rw [List.length_set]
  rw [List.getElem?_set] at hj
  split at hj
  · split at hj
    · cases hj; exact he
    · cases hj
  · exact h j e' hj
theorem xvH.app {AH : xH} {e : xE} (h : xvH AH) (he : xvE (AH.length + 1) e) : xvH (AH ++ [e]) := by
  intro j e' hj
  rw [List.length_append, List.length_singleton]
  by_cases hl : j < AH.length
  · rw [List.getElem?_append_left hl] at hj
    exact (h j e' hj).mono (Nat.le_succ _)
  · rw [List.getElem?_append_right (by omega)] at hj
    have hz : j - AH.length < 1 := (List.getElem?_eq_some_iff.mp hj).1
    rw [show j - AH.length = 0 by omega] at hj
    cases hj
    exact he
/-! the world that a method finds -/
def xTys (cA : Nat → ClassId) : List (ClassId × FieldType) := [(cA 0, .int), (cA 1, .long), (cA 2, .object "GrainGrower$Tape")]
