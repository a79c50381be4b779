/-! tables of operations, and the least relation that they close -/
def xMono (op : xOp) : Prop := ∀ (L : xL) (S : List Value) (AH : xH) (c : Nat × Nat) (k k' : xK) (Q : xQ), (∀ pc L S AH c, k pc L S AH c → k' pc L S AH c) → op L S AH c k Q → op L S AH c k' Q
def xSnd (Z : xZ) (M : xM) (pc : Nat) (op : xOp) : Prop := ∀ (L : xL) (S : List Value) (AH : xH) (c : Nat × Nat) (Q : xQ), op L S AH c (fun pc' L' S' AH' c' => XW Z M pc' L' S' AH' c' Q) Q → XW Z M pc L S AH c Q
def xOK (Z : xZ) (M : xM) (pc : Nat) (op : xOp) : Prop := xMono op ∧ xSnd Z M pc op
def XR (P : Nat → xOp) (pc : Nat) (L : xL) (S : List Value) (AH : xH) (c : Nat × Nat) (Q : xQ) : Prop :=
  ∀ I : xK, (∀ pc L S AH c, P pc L S AH c I Q → I pc L S AH c) → I pc L S AH c
theorem XR_eq {P : Nat → xOp} (hm : ∀ pc, xMono (P pc)) {pc : Nat} {L : xL} {S : List Value} {AH : xH} {c : Nat × Nat} {Q : xQ} : XR P pc L S AH c Q = P pc L S AH c (fun pc L S AH c => XR P pc L S AH c Q) Q := by
  have fold : ∀ pc L S AH c, P pc L S AH c (fun pc L S AH c => XR P pc L S AH c Q) Q → XR P pc L S AH c Q := fun pc L S AH c h I hI =>
    hI _ _ _ _ _ (hm pc L S AH c _ I Q (fun pc L S AH c hx => hx I hI) h)
  apply propext
  constructor
  · intro h
    exact h (fun pc L S AH c => P pc L S AH c (fun pc L S AH c => XR P pc L S AH c Q) Q) (fun pc L S AH c hp => hm pc L S AH c _ _ Q fold hp)
  · exact fold pc L S AH c
theorem XR.xw {Z : xZ} {M : xM} {P : Nat → xOp} (hs : ∀ pc, xSnd Z M pc (P pc)) {pc : Nat} {L : xL} {S : List Value} {AH : xH} {c : Nat × Nat} {Q : xQ} (h : XR P pc L S AH c Q) : XW Z M pc L S AH c Q :=
  h (fun pc L S AH c => XW Z M pc L S AH c Q) (fun pc L S AH c hp => hs pc L S AH c Q hp)
theorem XR.post {P : Nat → xOp} {pc : Nat} {L : xL} {S : List Value} {AH : xH} {c : Nat × Nat} {Q Q' : xQ} (hq : ∀ pc L S AH c k, P pc L S AH c k Q → P pc L S AH c k Q') (h : XR P pc L S AH c Q) : XR P pc L S AH c Q' :=
  fun I hI => h I (fun pc L S AH c hp => hI _ _ _ _ _ (hq _ _ _ _ _ _ hp))
/-- a table as a list -/
def o_bad : xOp := fun _ _ _ _ _ _ => False
def xtab (tb : List (List (Nat × xOp))) (pc : Nat) : xOp := ((tb.getD (pc / 32) []).lookup pc).getD o_bad
theorem lookup_mem {α : Type} {l : List (Nat × α)} {k : Nat} {v : α} (h : l.lookup k = some v) : (k, v) ∈ l := by
  induction l with
  | nil => cases h
  | cons a l ih =>
    obtain ⟨a1, a2⟩ := a
    rw [List.lookup_cons] at h
    split at h
    · rename_i he
      cases h
      rw [eq_of_beq he]
      exact List.mem_cons_self
    · exact List.mem_cons_of_mem _ (ih h)
theorem xtab_ok {Z : xZ} {M : xM} {tb : List (List (Nat × xOp))} (h : ∀ l ∈ tb, ∀ e ∈ l, xOK Z M e.1 e.2) (pc : Nat) : xOK Z M pc (xtab tb pc) := by
  unfold xtab
  cases hl : (tb.getD (pc / 32) []).lookup pc with
  | none => exact ⟨fun _ _ _ _ _ _ _ _ h => h, fun _ _ _ _ _ h => h.elim⟩
  | some op =>
    have h1 := lookup_mem hl
    rw [List.getD_eq_getElem?_getD] at h1
    cases h2 : tb[pc / 32]? with
    | none => rw [h2] at h1; cases h1
    | some l => rw [h2] at h1; exact h l (List.mem_of_getElem? h2) _ h1
/-! the locals with which a method begins -/
def xargs : List Value → xL
  | [] => []
  | v :: r => if v.category = 2 then some v :: none :: xargs r else some v :: xargs r
theorem lg_sl_len (vs : List Value) : (lg_sl vs).length = (xargs vs).length := by
  induction vs with
  | nil => rfl
  | cons v r ih =>
    simp only [lg_sl, List.flatMap_cons, xargs] at ih ⊢
    split <;> simp_all
theorem xargs_sl {ad st : Nat → Nat} (vs : List Value) : ∀ (i : Nat) (v : Value), (xargs vs)[i]? = some (some v) → (lg_sl (vs.map (xv ad st)))[i]? = some (.val (xv ad st v)) := by
  induction vs with
  | nil => intro i v h; simp [xargs] at h
  | cons a r ih =>
    intro i v h
    simp only [lg_sl, List.map_cons, List.flatMap_cons, xv_cat] at ih ⊢
    simp only [xargs] at h
    split at h
    · rename_i hc
      simp only [hc, if_true]
      match i, h with
      | 0, h => simp at h; simp [h]
      | 1, h => simp at h
      | i + 2, h => simpa using ih i v (by simpa using h)
    · rename_i hc
      simp only [hc, if_false]
      match i, h with
      | 0, h => simp at h; simp [h]
      | i + 1, h => simpa using ih i v (by simpa using h)
theorem xargs_mem {vs : List Value} {v : Value} (h : some v ∈ xargs vs) : v ∈ vs := by
  induction vs with
  | nil => cases h
  | cons a r ih =>
    simp only [xargs] at h
    split at h
    · simp at h
      rcases h with rfl | h
      · exact List.mem_cons_self
      · exact List.mem_cons_of_mem _ (ih h)
    · simp at h
      rcases h with rfl | h
      · exact List.mem_cons_self
      · exact List.mem_cons_of_mem _ (ih h)
theorem xLs_entry {ad st : Nat → Nat} {vs : List Value} {n : Nat} (h : (xargs vs).length ≤ n) : xLs ad st n ((lg_sl (vs.map (xv ad st)) ++ List.replicate (n - (lg_sl (vs.map (xv ad st))).length) Slot.unset).toArray) (xargs vs ++ List.replicate (n - (xargs vs).length) none) := by
  have hlen : (lg_sl (vs.map (xv ad st))).length = (xargs vs).length := by
    rw [lg_sl_len]
    induction vs with
    | nil => rfl
    | cons a r ih =>
      simp only [List.map_cons, xargs, xv_cat]
      have h2 : (xargs r).length ≤ n := by
        simp only [xargs] at h
        split at h <;> simp at h <;> omega
      split <;> simp [ih h2]
  have he := lv_entry (vs.map (xv ad st)) (n := n) (by rw [hlen]; exact h)
  refine ⟨he.1, he.2.1, fun i v hi => ?_⟩
  by_cases hl : i < (xargs vs).length
  · rw [List.getElem?_append_left hl] at hi
    have h1 := xargs_sl (ad := ad) (st := st) vs i v hi
    simp only [List.getElem?_toArray]
    rw [List.getElem?_append_left (by rw [hlen]; exact hl)]
    exact h1
  · rw [List.getElem?_append_right (by omega)] at hi
    have := List.mem_of_getElem? hi
    simp at this
/-- a contract out of a walk -/
theorem XC.ofW {M : xM} {args : List Value} {AH : xH} {Q : Option Value → xH → Prop} {L : xL} (hy : plainName M.1.cls = true) (hlen : (xargs args).length ≤ M.2.2.1) (hL : xargs args ++ List.replicate (M.2.2.1 - (xargs args).length) none = L)
    (h : XW none M 0 L [] AH (0, 0) (fun v AH' _ => Q v AH')) : XC M args AH Q := by
  intro hva hvH l D cA st ad sz
  refine Met.ofW (cc := M.2.1) (maxL := M.2.2.1) (ret := M.2.2.2.1) hy rfl ?_
  intro p e s m ar below meth c s₁ B hml hv
  obtain ⟨rfl, hsz, hP, hD0, hU, hSt⟩ := hv
  have hx := B.exec
  have hb := B.bytes
  have hr := B.returns
  have hts := atoms_spec (ws := xWs M) B.pre
  have hown : s.vm.findClass M.1.cls = some m.cls := findClass_of_methodNamed B.named
  have hlocks := B.notSynchronized
  have hin : meth.name = M.1.name := (name_of_methodNamed B.named B.method).1
  subst hsz
  have hD := hD0.self (sz := s.heap.size)
  rw [lg_entry_eq]
  have hls := xLs_entry (ad := ad) (st := st) (vs := args) (n := M.2.2.1) hlen
  rw [hL] at hls
  have hS : va_S (va_A (xw ad st cA AH) s.heap.size) s.heap s.heap [] := va_S.rf
  refine h l p e s m _ below meth c D cA st (va_A (xw ad st cA AH) s.heap.size) _ AH.length ad ad _ s.heap [] ⟨hx, hb, hml, hown, fun w hw => hts w (List.mem_cons_of_mem _ hw), fun hi => hin.trans hi, hU, fun q hq => Or.inr hq, hSt, fun q hq => by cases hq⟩ ⟨hP, hD, hS, hvH, Nat.le_refl _, fun _ _ => rfl⟩ hls ⟨?_, fun v hv => by cases hv⟩ ⟨Nat.zero_le _, Nat.zero_le _⟩ ?_
  · intro v hv
    rw [← hL] at hv
    rcases List.mem_append.mp hv with hv | hv
    · exact hva v (xargs_mem hv)
    · simp at hv
  · intro v AH' ad' H' locs' c' pc' ls' hq hrt hh hvv hc hd
    obtain ⟨gP, gD, gS, gH, gn, ga⟩ := hh
    refine W.widen (k := M.2.2.2.2.cells) (n := M.2.2.2.2.slots) hc.1 hc.2 ?_
    have post : ∀ t : State, t.heap = H' → s.WarmedH t.vm → xPost D cA st ad (va_A (xw ad st cA AH) s.heap.size) AH.length Q (args.map (xv ad st)).toArray s (.returned (v.map (xv ad' st))) t := fun t ht hW =>
      ⟨⟨v, AH', ad', rfl, hq, by rw [ht]; exact gP, gD, gH, gn, ga, hvv⟩, gS.F ht⟩
    unfold xrt at hrt
    split at hrt
    · rename_i hret
      exact W.vret hx hb (hr.trans hret) post gS.2.2 hd
    · rename_i x hret
      exact W.iret hx hb (hr.trans hret) post gS.2.2 hd
    · rename_i x hret
      exact W.lret hx hb (hr.trans hret) post gS.2.2 hd
    · rename_i x hret
      exact W.zret hx hb (hr.trans hret) (by rcases hrt with rfl | rfl <;> rfl) post gS.2.2 hd
    · rename_i o x hret
      exact W.aret hx hb (hr.trans hret) (Or.inl ⟨_, rfl⟩) (Or.inr ⟨_, rfl⟩) post gS.2.2 hd
    · rename_i o hret
      exact W.aret hx hb (hr.trans hret) (Or.inl ⟨_, rfl⟩) (Or.inl rfl) post gS.2.2 hd
    · exact hrt.elim
theorem XC.ofR {M : xM} {P : Nat → xOp} (hok : ∀ pc, xOK none M pc (P pc)) {args : List Value} {AH : xH} {Q : Option Value → xH → Prop} {L : xL} (hy : plainName M.1.cls = true) (hlen : (xargs args).length ≤ M.2.2.1) (hL : xargs args ++ List.replicate (M.2.2.1 - (xargs args).length) none = L)
    (h : XR P 0 L [] AH (0, 0) (fun v AH' _ => Q v AH')) : XC M args AH Q := XC.ofW hy hlen hL (XR.xw (fun pc => (hok pc).2) h)
