/-! operations: what they ask, and that the machine does them -/
theorem vtl {P : Value → Prop} {a : Value} {S : List Value} (h : ∀ v ∈ a :: S, P v) : ∀ v ∈ S, P v := fun v hm => h v (List.mem_cons_of_mem _ hm)
theorem vhd {P : Value → Prop} {a : Value} {S : List Value} (h : ∀ v ∈ a :: S, P v) : P a := h a List.mem_cons_self
theorem vcn {P : Value → Prop} {a : Value} {S : List Value} (ha : P a) (h : ∀ v ∈ S, P v) : ∀ v ∈ a :: S, P v := fun v hm => by
  rcases List.mem_cons.mp hm with rfl | hm
  · exact ha
  · exact h v hm
section OPS
variable {Z : xZ} {M : xM} {pc n : Nat}
def o_const (w : Value) (n : Nat) : xOp := fun L S AH c k _ => k n L (w :: S) AH c
theorem m_const {w : Value} : xMono (o_const w n) := fun _ _ _ _ _ _ _ hk h => hk _ _ _ _ _ h
theorem ok_iconst {i : Int} {w : Int32} (hd : decode M.2.1 pc = .ok (.iconst i, 1)) (hw : Int32.ofInt i = w) (hn : pc + 1 = n) : xOK Z M pc (o_const (.int w) n) := ⟨m_const, by
  subst hn
  intro L S AH c Q hop l p e s m args below meth cd D cA st A FQ n0 ad0 ad ls H locs C hh hl hv hc hr
  obtain ⟨hx, hb, hml, hown, hts, hin, hU, hA, hSt, hZ⟩ := id C
  exact lv_iconst (rest := S.map (xv ad st)) hx hb hd hw (hop l p e s m args below meth cd D cA st A FQ n0 ad0 ad ls H locs C hh hl ⟨hv.1, vcn trivial hv.2⟩ hc hr)⟩
theorem ok_bipush {i : Int} {w : Int32} (hd : decode M.2.1 pc = .ok (.bipush i, 2)) (hw : (Int8.ofInt i).toInt32 = w) (hn : pc + 2 = n) : xOK Z M pc (o_const (.int w) n) := ⟨m_const, by
  subst hn
  intro L S AH c Q hop l p e s m args below meth cd D cA st A FQ n0 ad0 ad ls H locs C hh hl hv hc hr
  obtain ⟨hx, hb, hml, hown, hts, hin, hU, hA, hSt, hZ⟩ := id C
  exact lv_bipush (rest := S.map (xv ad st)) hx hb hd hw (hop l p e s m args below meth cd D cA st A FQ n0 ad0 ad ls H locs C hh hl ⟨hv.1, vcn trivial hv.2⟩ hc hr)⟩
theorem ok_sipush {i : Int} {w : Int32} (hd : decode M.2.1 pc = .ok (.sipush i, 3)) (hw : (Int16.ofInt i).toInt32 = w) (hn : pc + 3 = n) : xOK Z M pc (o_const (.int w) n) := ⟨m_const, by
  subst hn
  intro L S AH c Q hop l p e s m args below meth cd D cA st A FQ n0 ad0 ad ls H locs C hh hl hv hc hr
  obtain ⟨hx, hb, hml, hown, hts, hin, hU, hA, hSt, hZ⟩ := id C
  exact lv_sipush (rest := S.map (xv ad st)) hx hb hd hw (hop l p e s m args below meth cd D cA st A FQ n0 ad0 ad ls H locs C hh hl ⟨hv.1, vcn trivial hv.2⟩ hc hr)⟩
theorem ok_lconst {i : Fin 2} {w : Int64} (hd : decode M.2.1 pc = .ok (.lconst i, 1)) (hw : Int64.ofNat (i : Nat) = w) (hn : pc + 1 = n) : xOK Z M pc (o_const (.long w) n) := ⟨m_const, by
  subst hn
  intro L S AH c Q hop l p e s m args below meth cd D cA st A FQ n0 ad0 ad ls H locs C hh hl hv hc hr
  obtain ⟨hx, hb, hml, hown, hts, hin, hU, hA, hSt, hZ⟩ := id C
  exact lv_lconst (rest := S.map (xv ad st)) hx hb hd hw (hop l p e s m args below meth cd D cA st A FQ n0 ad0 ad ls H locs C hh hl ⟨hv.1, vcn trivial hv.2⟩ hc hr)⟩
theorem ok_null  (hd : decode M.2.1 pc = .ok (.aconst_null, 1)) (hn : pc + 1 = n) : xOK Z M pc (o_const .null n) := ⟨m_const, by
  subst hn
  intro L S AH c Q hop l p e s m args below meth cd D cA st A FQ n0 ad0 ad ls H locs C hh hl hv hc hr
  obtain ⟨hx, hb, hml, hown, hts, hin, hU, hA, hSt, hZ⟩ := id C
  exact lv_null (rest := S.map (xv ad st)) hx hb hd (hop l p e s m args below meth cd D cA st A FQ n0 ad0 ad ls H locs C hh hl ⟨hv.1, vcn trivial hv.2⟩ hc hr)⟩
theorem ok_ldc {i : Nat} {w : Int32} (hd : decode M.2.1 pc = .ok (.ldc i, 2)) (hw : Cond.constant M.1.cls i w ∈ wsAll) (hn : pc + 2 = n) : xOK Z M pc (o_const (.int w) n) := ⟨m_const, by
  subst hn
  intro L S AH c Q hop l p e s m args below meth cd D cA st A FQ n0 ad0 ad ls H locs C hh hl hv hc hr
  obtain ⟨hx, hb, hml, hown, hts, hin, hU, hA, hSt, hZ⟩ := id C
  exact lv_ldc (rest := S.map (xv ad st)) hx hb hown (hts _ hw) hd (hop l p e s m args below meth cd D cA st A FQ n0 ad0 ad ls H locs C hh hl ⟨hv.1, vcn trivial hv.2⟩ hc hr)⟩
theorem ok_ldc2 {i : Nat} {w : Int64} (hd : decode M.2.1 pc = .ok (.ldc2_w i, 3)) (hw : Cond.constantLong M.1.cls i w ∈ wsAll) (hn : pc + 3 = n) : xOK Z M pc (o_const (.long w) n) := ⟨m_const, by
  subst hn
  intro L S AH c Q hop l p e s m args below meth cd D cA st A FQ n0 ad0 ad ls H locs C hh hl hv hc hr
  obtain ⟨hx, hb, hml, hown, hts, hin, hU, hA, hSt, hZ⟩ := id C
  exact lv_ldc2 (rest := S.map (xv ad st)) hx hb hown (hts _ hw) hd (hop l p e s m args below meth cd D cA st A FQ n0 ad0 ad ls H locs C hh hl ⟨hv.1, vcn trivial hv.2⟩ hc hr)⟩
def o_iload (i n : Nat) : xOp := fun L S AH c k _ => ∃ x : Int32, L[i]? = some (some (.int x)) ∧ k n L (.int x :: S) AH c
theorem m_iload {i : Nat} : xMono (o_iload i n) := fun _ _ _ _ _ _ _ hk ⟨x, h1, h⟩ => ⟨x, h1, hk _ _ _ _ _ h⟩
theorem ok_iload {i : Nat} (hd : decode M.2.1 pc = .ok (.iload i, 2)) (hn : pc + 2 = n) : xOK Z M pc (o_iload i n) := ⟨m_iload, by
  subst hn
  intro L S AH c Q hop l p e s m args below meth cd D cA st A FQ n0 ad0 ad ls H locs C hh hl hv hc hr
  obtain ⟨hx, hb, hml, hown, hts, hin, hU, hA, hSt, hZ⟩ := id C
  obtain ⟨x, h1, hop⟩ := hop
  exact lv_iload (x := x) (rest := S.map (xv ad st)) hx hb hd (hl.2.2 i _ h1) (hop l p e s m args below meth cd D cA st A FQ n0 ad0 ad ls H locs C hh hl ⟨hv.1, vcn trivial hv.2⟩ hc hr)⟩
theorem ok_iload_n {i : Nat} {f : Fin 4} (hd : decode M.2.1 pc = .ok (.iload_n f, 1)) (hi : (f : Nat) = i) (hn : pc + 1 = n) : xOK Z M pc (o_iload i n) := ⟨m_iload, by
  subst hn
  intro L S AH c Q hop l p e s m args below meth cd D cA st A FQ n0 ad0 ad ls H locs C hh hl hv hc hr
  obtain ⟨hx, hb, hml, hown, hts, hin, hU, hA, hSt, hZ⟩ := id C
  obtain ⟨x, h1, hop⟩ := hop
  exact lv_iload_n (x := x) (rest := S.map (xv ad st)) hx hb hd hi (hl.2.2 i _ h1) (hop l p e s m args below meth cd D cA st A FQ n0 ad0 ad ls H locs C hh hl ⟨hv.1, vcn trivial hv.2⟩ hc hr)⟩
def o_lload (i n : Nat) : xOp := fun L S AH c k _ => ∃ x : Int64, L[i]? = some (some (.long x)) ∧ k n L (.long x :: S) AH c
theorem m_lload {i : Nat} : xMono (o_lload i n) := fun _ _ _ _ _ _ _ hk ⟨x, h1, h⟩ => ⟨x, h1, hk _ _ _ _ _ h⟩
theorem ok_lload {i : Nat} (hd : decode M.2.1 pc = .ok (.lload i, 2)) (hn : pc + 2 = n) : xOK Z M pc (o_lload i n) := ⟨m_lload, by
  subst hn
  intro L S AH c Q hop l p e s m args below meth cd D cA st A FQ n0 ad0 ad ls H locs C hh hl hv hc hr
  obtain ⟨hx, hb, hml, hown, hts, hin, hU, hA, hSt, hZ⟩ := id C
  obtain ⟨x, h1, hop⟩ := hop
  exact lv_lload (x := x) (rest := S.map (xv ad st)) hx hb hd (hl.2.2 i _ h1) (hop l p e s m args below meth cd D cA st A FQ n0 ad0 ad ls H locs C hh hl ⟨hv.1, vcn trivial hv.2⟩ hc hr)⟩
theorem ok_lload_n {i : Nat} {f : Fin 4} (hd : decode M.2.1 pc = .ok (.lload_n f, 1)) (hi : (f : Nat) = i) (hn : pc + 1 = n) : xOK Z M pc (o_lload i n) := ⟨m_lload, by
  subst hn
  intro L S AH c Q hop l p e s m args below meth cd D cA st A FQ n0 ad0 ad ls H locs C hh hl hv hc hr
  obtain ⟨hx, hb, hml, hown, hts, hin, hU, hA, hSt, hZ⟩ := id C
  obtain ⟨x, h1, hop⟩ := hop
  exact lv_lload_n (x := x) (rest := S.map (xv ad st)) hx hb hd hi (hl.2.2 i _ h1) (hop l p e s m args below meth cd D cA st A FQ n0 ad0 ad ls H locs C hh hl ⟨hv.1, vcn trivial hv.2⟩ hc hr)⟩
def xisr : Value → Prop
  | .ref _ => True
  | .null => True
  | .float _ => True
  | _ => False
def o_aload (i n : Nat) : xOp := fun L S AH c k _ => ∃ v : Value, L[i]? = some (some v) ∧ xisr v ∧ k n L (v :: S) AH c
theorem m_aload {i : Nat} : xMono (o_aload i n) := fun _ _ _ _ _ _ _ hk ⟨x, h1, h2, h⟩ => ⟨x, h1, h2, hk _ _ _ _ _ h⟩
theorem ok_aload {i : Nat} (hd : decode M.2.1 pc = .ok (.aload i, 2)) (hn : pc + 2 = n) : xOK Z M pc (o_aload i n) := ⟨m_aload, by
  subst hn
  intro L S AH c Q hop l p e s m args below meth cd D cA st A FQ n0 ad0 ad ls H locs C hh hl hv hc hr
  obtain ⟨hx, hb, hml, hown, hts, hin, hU, hA, hSt, hZ⟩ := id C
  obtain ⟨v, h1, h2, hop⟩ := hop
  have hvv := hv.1 v (List.mem_of_getElem? h1)
  have hls := hl.2.2 i _ h1
  have hop := hop l p e s m args below meth cd D cA st A FQ n0 ad0 ad ls H locs C hh hl ⟨hv.1, vcn hvv hv.2⟩ hc hr
  cases v with
  | ref a => exact lv_aload (x := ad a) (rest := S.map (xv ad st)) hx hb hd hls hop
  | float a => exact lv_aload (x := st a.toNat) (rest := S.map (xv ad st)) hx hb hd hls hop
  | null => exact lv_aloadN (rest := S.map (xv ad st)) hx hb hd hls hop
  | _ => exact h2.elim⟩
theorem ok_aload_n {i : Nat} {f : Fin 4} (hd : decode M.2.1 pc = .ok (.aload_n f, 1)) (hi : (f : Nat) = i) (hn : pc + 1 = n) : xOK Z M pc (o_aload i n) := ⟨m_aload, by
  subst hn
  intro L S AH c Q hop l p e s m args below meth cd D cA st A FQ n0 ad0 ad ls H locs C hh hl hv hc hr
  obtain ⟨hx, hb, hml, hown, hts, hin, hU, hA, hSt, hZ⟩ := id C
  obtain ⟨v, h1, h2, hop⟩ := hop
  have hvv := hv.1 v (List.mem_of_getElem? h1)
  have hls := hl.2.2 i _ h1
  have hop := hop l p e s m args below meth cd D cA st A FQ n0 ad0 ad ls H locs C hh hl ⟨hv.1, vcn hvv hv.2⟩ hc hr
  cases v with
  | ref a => exact lv_aload_n (x := ad a) (rest := S.map (xv ad st)) hx hb hd hi hls hop
  | float a => exact lv_aload_n (x := st a.toNat) (rest := S.map (xv ad st)) hx hb hd hi hls hop
  | null => exact lv_aload_nN (rest := S.map (xv ad st)) hx hb hd hi hls hop
  | _ => exact h2.elim⟩
def xnlv : Option Value → Prop
  | some (.long _) => False
  | some (.double _) => False
  | _ => True
def xnl (L : xL) : Nat → Prop
  | 0 => True
  | j + 1 => ∀ w, L[j]? = some w → xnlv w
theorem xnlv_cat {v : Value} (h : xnlv (some v)) : v.category = 1 := by cases v <;> first | rfl | exact h.elim
def xpr (ad st : Nat → Nat) (L : xL) : List (Nat × Value) := (List.range L.length).filterMap fun i => match L[i]? with
  | some (some v) => some (i, xv ad st v)
  | _ => none
theorem xpr_mem {ad st : Nat → Nat} {L : xL} {q : Nat × Value} : q ∈ xpr ad st L ↔ ∃ v, L[q.1]? = some (some v) ∧ q.2 = xv ad st v := by
  unfold xpr
  rw [List.mem_filterMap]
  constructor
  · rintro ⟨i, hi, h⟩
    split at h
    · rename_i v hv
      cases h
      exact ⟨v, hv, rfl⟩
    · cases h
  · rintro ⟨v, h1, h2⟩
    refine ⟨q.1, List.mem_range.mpr (List.getElem?_eq_some_iff.mp h1).1, ?_⟩
    rw [h1]
    simp only [← h2]
theorem xLs.has {ad st : Nat → Nat} {nL : Nat} {ls : Array Slot} {L : xL} (h : xLs ad st nL ls L) : lv_has ls nL (xpr ad st L) := ⟨h.1, h.2.1, fun q hq => by
  obtain ⟨v, h1, h2⟩ := xpr_mem.mp hq
  rw [h2]
  exact h.2.2 _ _ h1⟩
theorem xLs.of1 {ad st : Nat → Nat} {nL i : Nat} {ls : Array Slot} {L : xL} {v : Value} (hn : xnl L i) (h : lv_has ls nL ((i, xv ad st v) :: (xpr ad st L).filter (fun q => !(q.1 == i) && !(q.1 + 1 == i && q.2.category == 2)))) : xLs ad st nL ls (L.set i (some v)) := by
  refine ⟨h.1, h.2.1, fun j w hj => ?_⟩
  rw [List.getElem?_set] at hj
  split at hj
  · rename_i hij
    subst hij
    split at hj
    · cases hj
      exact h.2.2 (i, _) List.mem_cons_self
    · cases hj
  · rename_i hij
    refine h.2.2 (j, xv ad st w) (List.mem_cons_of_mem _ (List.mem_filter.mpr ⟨xpr_mem.mpr ⟨w, hj, rfl⟩, ?_⟩))
    have h2 : ¬ (j + 1 = i ∧ w.category = 2) := fun ⟨h3, h4⟩ => by
      subst h3
      have := xnlv_cat (hn _ hj)
      omega
    simp only [xv_cat]
    simp only [Bool.and_eq_true, Bool.not_eq_true', beq_eq_false_iff_ne, Bool.and_eq_false_iff]
    refine ⟨fun h => hij h.symm, ?_⟩
    by_cases hc : j + 1 = i
    · exact Or.inr (fun h => h2 ⟨hc, h⟩)
    · exact Or.inl hc
theorem xLs.of2 {ad st : Nat → Nat} {nL i : Nat} {ls : Array Slot} {L : xL} {v : Value} (hn : xnl L i) (h : lv_has ls nL ((i, xv ad st v) :: (xpr ad st L).filter (fun q => !(q.1 == i) && (!(q.1 == i + 1) && !(q.1 + 1 == i && q.2.category == 2))))) : xLs ad st nL ls ((L.set i (some v)).set (i + 1) none) := by
  refine ⟨h.1, h.2.1, fun j w hj => ?_⟩
  rw [List.getElem?_set] at hj
  split at hj
  · split at hj <;> cases hj
  rename_i hij2
  rw [List.getElem?_set] at hj
  split at hj
  · rename_i hij
    subst hij
    split at hj
    · cases hj
      exact h.2.2 (i, _) List.mem_cons_self
    · cases hj
  · rename_i hij
    refine h.2.2 (j, xv ad st w) (List.mem_cons_of_mem _ (List.mem_filter.mpr ⟨xpr_mem.mpr ⟨w, hj, rfl⟩, ?_⟩))
    have h2 : ¬ (j + 1 = i ∧ w.category = 2) := fun ⟨h3, h4⟩ => by
      subst h3
      have := xnlv_cat (hn _ hj)
      omega
    simp only [xv_cat]
    simp only [Bool.and_eq_true, Bool.not_eq_true', beq_eq_false_iff_ne, Bool.and_eq_false_iff]
    refine ⟨fun h => hij h.symm, fun h => hij2 h.symm, ?_⟩
    by_cases hc : j + 1 = i
    · exact Or.inr (fun h => h2 ⟨hc, h⟩)
    · exact Or.inl hc
theorem xVl.set {n i : Nat} {L : xL} {S : List Value} {w : Option Value} (h : ∀ v, some v ∈ L → xvV n v) (hw : ∀ v, w = some v → xvV n v) : ∀ v, some v ∈ L.set i w → xvV n v := fun v hm => by
  rcases List.mem_or_eq_of_mem_set hm with h1 | h1
  · exact h v h1
  · exact hw v h1.symm
def o_ist (i n : Nat) : xOp := fun L S AH c k _ => ∃ (x : Int32) (S' : List Value), S = .int x :: S' ∧ xnl L i ∧ k n (L.set i (some (.int x))) S' AH c
theorem m_ist {i : Nat} : xMono (o_ist i n) := fun _ _ _ _ _ _ _ hk ⟨x, S', h1, h2, h⟩ => ⟨x, S', h1, h2, hk _ _ _ _ _ h⟩
def o_lst (i n : Nat) : xOp := fun L S AH c k _ => ∃ (x : Int64) (S' : List Value), S = .long x :: S' ∧ xnl L i ∧ k n ((L.set i (some (.long x))).set (i + 1) none) S' AH c
theorem m_lst {i : Nat} : xMono (o_lst i n) := fun _ _ _ _ _ _ _ hk ⟨x, S', h1, h2, h⟩ => ⟨x, S', h1, h2, hk _ _ _ _ _ h⟩
def o_ast (i n : Nat) : xOp := fun L S AH c k _ => ∃ (v : Value) (S' : List Value), S = v :: S' ∧ xisr v ∧ xnl L i ∧ k n (L.set i (some v)) S' AH c
theorem m_ast {i : Nat} : xMono (o_ast i n) := fun _ _ _ _ _ _ _ hk ⟨x, S', h1, h2, h3, h⟩ => ⟨x, S', h1, h2, h3, hk _ _ _ _ _ h⟩
theorem ok_ist {i : Nat} (hd : decode M.2.1 pc = .ok (.istore i, 2)) (hm : i < M.2.2.1) (hn : pc + 2 = n) : xOK Z M pc (o_ist i n) := ⟨m_ist, by
  subst hn
  intro L S AH c Q hop l p e s m args below meth cd D cA st A FQ n0 ad0 ad ls H locs C hh hl hv hc hr
  obtain ⟨hx, hb, hml, hown, hts, hin, hU, hA, hSt, hZ⟩ := id C
  obtain ⟨x, S', rfl, h2, hop⟩ := hop
  exact lv_istore (x := x) (rest := S'.map (xv ad st)) hx hb hd hl.has hm rfl (fun ls' hl' => hop l p e s m args below meth cd D cA st A FQ n0 ad0 ad ls' H locs C hh (xLs.of1 (v := .int x) h2 hl') ⟨xVl.set (S := S') hv.1 (fun v e => by cases e; trivial), vtl hv.2⟩ hc hr)⟩
theorem ok_lst {i : Nat} (hd : decode M.2.1 pc = .ok (.lstore i, 2)) (hm : i + 1 < M.2.2.1) (hn : pc + 2 = n) : xOK Z M pc (o_lst i n) := ⟨m_lst, by
  subst hn
  intro L S AH c Q hop l p e s m args below meth cd D cA st A FQ n0 ad0 ad ls H locs C hh hl hv hc hr
  obtain ⟨hx, hb, hml, hown, hts, hin, hU, hA, hSt, hZ⟩ := id C
  obtain ⟨x, S', rfl, h2, hop⟩ := hop
  exact lv_lstore (x := x) (rest := S'.map (xv ad st)) hx hb hd hl.has hm rfl (fun ls' hl' => hop l p e s m args below meth cd D cA st A FQ n0 ad0 ad ls' H locs C hh (xLs.of2 (v := .long x) h2 hl') ⟨xVl.set (S := S') (xVl.set (S := S') hv.1 (fun v e => by cases e; trivial)) (fun v e => by cases e), vtl hv.2⟩ hc hr)⟩
theorem ok_ast {i : Nat} (hd : decode M.2.1 pc = .ok (.astore i, 2)) (hm : i < M.2.2.1) (hn : pc + 2 = n) : xOK Z M pc (o_ast i n) := ⟨m_ast, by
  subst hn
  intro L S AH c Q hop l p e s m args below meth cd D cA st A FQ n0 ad0 ad ls H locs C hh hl hv hc hr
  obtain ⟨hx, hb, hml, hown, hts, hin, hU, hA, hSt, hZ⟩ := id C
  obtain ⟨v, S', rfl, h1, h2, hop⟩ := hop
  have hvv := vhd hv.2
  have go : ∀ ls' : Array Slot, lv_has ls' M.2.2.1 ((i, xv ad st v) :: (xpr ad st L).filter (fun q => !(q.1 == i) && !(q.1 + 1 == i && q.2.category == 2))) → _ := fun ls' hl' => hop l p e s m args below meth cd D cA st A FQ n0 ad0 ad ls' H locs C hh (xLs.of1 (v := v) h2 hl') ⟨xVl.set (S := S') hv.1 (fun w e => by cases e; exact hvv), vtl hv.2⟩ hc hr
  cases v with
  | ref a => exact lv_astore (x := ad a) (rest := S'.map (xv ad st)) hx hb hd hl.has hm rfl go
  | float a => exact lv_astore (x := st a.toNat) (rest := S'.map (xv ad st)) hx hb hd hl.has hm rfl go
  | null => exact lv_astoreN (rest := S'.map (xv ad st)) hx hb hd hl.has hm rfl go
  | _ => exact h1.elim⟩
theorem ok_ist_n {i : Nat} {f : Fin 4} (hd : decode M.2.1 pc = .ok (.istore_n f, 1)) (hi : (f : Nat) = i) (hm : i < M.2.2.1) (hn : pc + 1 = n) : xOK Z M pc (o_ist i n) := ⟨m_ist, by
  subst hn
  intro L S AH c Q hop l p e s m args below meth cd D cA st A FQ n0 ad0 ad ls H locs C hh hl hv hc hr
  obtain ⟨hx, hb, hml, hown, hts, hin, hU, hA, hSt, hZ⟩ := id C
  obtain ⟨x, S', rfl, h2, hop⟩ := hop
  exact lv_istore_n (x := x) (rest := S'.map (xv ad st)) hx hb hd hi hl.has hm rfl (fun ls' hl' => hop l p e s m args below meth cd D cA st A FQ n0 ad0 ad ls' H locs C hh (xLs.of1 (v := .int x) h2 hl') ⟨xVl.set (S := S') hv.1 (fun v e => by cases e; trivial), vtl hv.2⟩ hc hr)⟩
theorem ok_lst_n {i : Nat} {f : Fin 4} (hd : decode M.2.1 pc = .ok (.lstore_n f, 1)) (hi : (f : Nat) = i) (hm : i + 1 < M.2.2.1) (hn : pc + 1 = n) : xOK Z M pc (o_lst i n) := ⟨m_lst, by
  subst hn
  intro L S AH c Q hop l p e s m args below meth cd D cA st A FQ n0 ad0 ad ls H locs C hh hl hv hc hr
  obtain ⟨hx, hb, hml, hown, hts, hin, hU, hA, hSt, hZ⟩ := id C
  obtain ⟨x, S', rfl, h2, hop⟩ := hop
  exact lv_lstore_n (x := x) (rest := S'.map (xv ad st)) hx hb hd hi hl.has hm rfl (fun ls' hl' => hop l p e s m args below meth cd D cA st A FQ n0 ad0 ad ls' H locs C hh (xLs.of2 (v := .long x) h2 hl') ⟨xVl.set (S := S') (xVl.set (S := S') hv.1 (fun v e => by cases e; trivial)) (fun v e => by cases e), vtl hv.2⟩ hc hr)⟩
theorem ok_ast_n {i : Nat} {f : Fin 4} (hd : decode M.2.1 pc = .ok (.astore_n f, 1)) (hi : (f : Nat) = i) (hm : i < M.2.2.1) (hn : pc + 1 = n) : xOK Z M pc (o_ast i n) := ⟨m_ast, by
  subst hn
  intro L S AH c Q hop l p e s m args below meth cd D cA st A FQ n0 ad0 ad ls H locs C hh hl hv hc hr
  obtain ⟨hx, hb, hml, hown, hts, hin, hU, hA, hSt, hZ⟩ := id C
  obtain ⟨v, S', rfl, h1, h2, hop⟩ := hop
  have hvv := vhd hv.2
  have go : ∀ ls' : Array Slot, lv_has ls' M.2.2.1 ((i, xv ad st v) :: (xpr ad st L).filter (fun q => !(q.1 == i) && !(q.1 + 1 == i && q.2.category == 2))) → _ := fun ls' hl' => hop l p e s m args below meth cd D cA st A FQ n0 ad0 ad ls' H locs C hh (xLs.of1 (v := v) h2 hl') ⟨xVl.set (S := S') hv.1 (fun w e => by cases e; exact hvv), vtl hv.2⟩ hc hr
  cases v with
  | ref a => exact lv_astore_n (x := ad a) (rest := S'.map (xv ad st)) hx hb hd hi hl.has hm rfl go
  | float a => exact lv_astore_n (x := st a.toNat) (rest := S'.map (xv ad st)) hx hb hd hi hl.has hm rfl go
  | null => exact lv_astore_nN (rest := S'.map (xv ad st)) hx hb hd hi hl.has hm rfl go
  | _ => exact h1.elim⟩
def o_iinc (i : Nat) (d : Int32) (n : Nat) : xOp := fun L S AH c k _ => ∃ x : Int32, L[i]? = some (some (.int x)) ∧ xnl L i ∧ k n (L.set i (some (.int (x + d)))) S AH c
theorem m_iinc {i : Nat} {d : Int32} : xMono (o_iinc i d n) := fun _ _ _ _ _ _ _ hk ⟨x, h1, h2, h⟩ => ⟨x, h1, h2, hk _ _ _ _ _ h⟩
theorem ok_iinc {i : Nat} {z : Int} {d : Int32} (hd : decode M.2.1 pc = .ok (.iinc i z, 3)) (hz : Int32.ofInt z = d) (hm : i < M.2.2.1) (hn : pc + 3 = n) : xOK Z M pc (o_iinc i d n) := ⟨m_iinc, by
  subst hn
  subst hz
  intro L S AH c Q hop l p e s m args below meth cd D cA st A FQ n0 ad0 ad ls H locs C hh hl hv hc hr
  obtain ⟨hx, hb, hml, hown, hts, hin, hU, hA, hSt, hZ⟩ := id C
  obtain ⟨x, h1, h2, hop⟩ := hop
  obtain ⟨k, hk⟩ := List.mem_iff_getElem?.mp (xpr_mem (ad := ad) (st := st) (q := (i, .int x)).mpr ⟨.int x, h1, rfl⟩)
  exact lv_iinc (x := x) (rest := S.map (xv ad st)) hx hb hd hl.has hk rfl hm rfl (fun ls' hl' => hop l p e s m args below meth cd D cA st A FQ n0 ad0 ad ls' H locs C hh (xLs.of1 (v := .int (x + Int32.ofInt z)) h2 hl') ⟨xVl.set (S := S) hv.1 (fun v e => by cases e; trivial), hv.2⟩ hc hr)⟩
def o_i1 (f : Int32 → Int32) (n : Nat) : xOp := fun L S AH c k _ => ∃ (x : Int32) (S' : List Value), S = .int x :: S' ∧ k n L (.int (f x) :: S') AH c
theorem m_i1 {f : Int32 → Int32} : xMono (o_i1 f n) := fun _ _ _ _ _ _ _ hk ⟨x, S', h1, h⟩ => ⟨x, S', h1, hk _ _ _ _ _ h⟩
def o_il (f : Int32 → Int64) (n : Nat) : xOp := fun L S AH c k _ => ∃ (x : Int32) (S' : List Value), S = .int x :: S' ∧ k n L (.long (f x) :: S') AH c
theorem m_il {f : Int32 → Int64} : xMono (o_il f n) := fun _ _ _ _ _ _ _ hk ⟨x, S', h1, h⟩ => ⟨x, S', h1, hk _ _ _ _ _ h⟩
def o_li (f : Int64 → Int32) (n : Nat) : xOp := fun L S AH c k _ => ∃ (x : Int64) (S' : List Value), S = .long x :: S' ∧ k n L (.int (f x) :: S') AH c
theorem m_li {f : Int64 → Int32} : xMono (o_li f n) := fun _ _ _ _ _ _ _ hk ⟨x, S', h1, h⟩ => ⟨x, S', h1, hk _ _ _ _ _ h⟩
theorem ok_ineg (hd : decode M.2.1 pc = .ok (.ineg, 1)) (hn : pc + 1 = n) : xOK Z M pc (o_i1 (fun x => -x) n) := ⟨m_i1, by
  subst hn
  intro L S AH c Q hop l p e s m args below meth cd D cA st A FQ n0 ad0 ad ls H locs C hh hl hv hc hr
  obtain ⟨hx, hb, hml, hown, hts, hin, hU, hA, hSt, hZ⟩ := id C
  obtain ⟨x, S', rfl, hop⟩ := hop
  exact lv_ineg (x := x) (rest := S'.map (xv ad st)) hx hb hd (hop l p e s m args below meth cd D cA st A FQ n0 ad0 ad ls H locs C hh hl ⟨hv.1, vcn trivial (vtl hv.2)⟩ hc hr)⟩
theorem ok_i2b (hd : decode M.2.1 pc = .ok (.i2b, 1)) (hn : pc + 1 = n) : xOK Z M pc (o_i1 (fun x => x.toInt8.toInt32) n) := ⟨m_i1, by
  subst hn
  intro L S AH c Q hop l p e s m args below meth cd D cA st A FQ n0 ad0 ad ls H locs C hh hl hv hc hr
  obtain ⟨hx, hb, hml, hown, hts, hin, hU, hA, hSt, hZ⟩ := id C
  obtain ⟨x, S', rfl, hop⟩ := hop
  exact lv_i2b (x := x) (rest := S'.map (xv ad st)) hx hb hd rfl (hop l p e s m args below meth cd D cA st A FQ n0 ad0 ad ls H locs C hh hl ⟨hv.1, vcn trivial (vtl hv.2)⟩ hc hr)⟩
theorem ok_i2s (hd : decode M.2.1 pc = .ok (.i2s, 1)) (hn : pc + 1 = n) : xOK Z M pc (o_i1 (fun x => x.toInt16.toInt32) n) := ⟨m_i1, by
  subst hn
  intro L S AH c Q hop l p e s m args below meth cd D cA st A FQ n0 ad0 ad ls H locs C hh hl hv hc hr
  obtain ⟨hx, hb, hml, hown, hts, hin, hU, hA, hSt, hZ⟩ := id C
  obtain ⟨x, S', rfl, hop⟩ := hop
  exact lv_i2s (x := x) (rest := S'.map (xv ad st)) hx hb hd rfl (hop l p e s m args below meth cd D cA st A FQ n0 ad0 ad ls H locs C hh hl ⟨hv.1, vcn trivial (vtl hv.2)⟩ hc hr)⟩
theorem ok_i2l (hd : decode M.2.1 pc = .ok (.i2l, 1)) (hn : pc + 1 = n) : xOK Z M pc (o_il (fun x => x.toInt64) n) := ⟨m_il, by
  subst hn
  intro L S AH c Q hop l p e s m args below meth cd D cA st A FQ n0 ad0 ad ls H locs C hh hl hv hc hr
  obtain ⟨hx, hb, hml, hown, hts, hin, hU, hA, hSt, hZ⟩ := id C
  obtain ⟨x, S', rfl, hop⟩ := hop
  exact lv_i2l (x := x) (rest := S'.map (xv ad st)) hx hb hd rfl (hop l p e s m args below meth cd D cA st A FQ n0 ad0 ad ls H locs C hh hl ⟨hv.1, vcn trivial (vtl hv.2)⟩ hc hr)⟩
theorem ok_l2i (hd : decode M.2.1 pc = .ok (.l2i, 1)) (hn : pc + 1 = n) : xOK Z M pc (o_li (fun x => x.toInt32) n) := ⟨m_li, by
  subst hn
  intro L S AH c Q hop l p e s m args below meth cd D cA st A FQ n0 ad0 ad ls H locs C hh hl hv hc hr
  obtain ⟨hx, hb, hml, hown, hts, hin, hU, hA, hSt, hZ⟩ := id C
  obtain ⟨x, S', rfl, hop⟩ := hop
  exact lv_l2i (x := x) (rest := S'.map (xv ad st)) hx hb hd rfl (hop l p e s m args below meth cd D cA st A FQ n0 ad0 ad ls H locs C hh hl ⟨hv.1, vcn trivial (vtl hv.2)⟩ hc hr)⟩
def o_ii (f : Int32 → Int32 → Int32) (n : Nat) : xOp := fun L S AH c k _ => ∃ (x : Int32) (y : Int32) (S' : List Value), S = .int y :: .int x :: S' ∧ k n L (.int (f x y) :: S') AH c
theorem m_ii {f : Int32 → Int32 → Int32} : xMono (o_ii f n) := fun _ _ _ _ _ _ _ hk ⟨x, y, S', h1, h⟩ => ⟨x, y, S', h1, hk _ _ _ _ _ h⟩
def o_ll (f : Int64 → Int64 → Int64) (n : Nat) : xOp := fun L S AH c k _ => ∃ (x : Int64) (y : Int64) (S' : List Value), S = .long y :: .long x :: S' ∧ k n L (.long (f x y) :: S') AH c
theorem m_ll {f : Int64 → Int64 → Int64} : xMono (o_ll f n) := fun _ _ _ _ _ _ _ hk ⟨x, y, S', h1, h⟩ => ⟨x, y, S', h1, hk _ _ _ _ _ h⟩
def o_lli (f : Int64 → Int64 → Int32) (n : Nat) : xOp := fun L S AH c k _ => ∃ (x : Int64) (y : Int64) (S' : List Value), S = .long y :: .long x :: S' ∧ k n L (.int (f x y) :: S') AH c
theorem m_lli {f : Int64 → Int64 → Int32} : xMono (o_lli f n) := fun _ _ _ _ _ _ _ hk ⟨x, y, S', h1, h⟩ => ⟨x, y, S', h1, hk _ _ _ _ _ h⟩
def o_lil (f : Int64 → Int32 → Int64) (n : Nat) : xOp := fun L S AH c k _ => ∃ (x : Int64) (y : Int32) (S' : List Value), S = .int y :: .long x :: S' ∧ k n L (.long (f x y) :: S') AH c
theorem m_lil {f : Int64 → Int32 → Int64} : xMono (o_lil f n) := fun _ _ _ _ _ _ _ hk ⟨x, y, S', h1, h⟩ => ⟨x, y, S', h1, hk _ _ _ _ _ h⟩
theorem ok_iadd (hd : decode M.2.1 pc = .ok (.iadd, 1)) (hn : pc + 1 = n) : xOK Z M pc (o_ii (fun x y => x + y) n) := ⟨m_ii, by
  subst hn
  intro L S AH c Q hop l p e s m args below meth cd D cA st A FQ n0 ad0 ad ls H locs C hh hl hv hc hr
  obtain ⟨hx, hb, hml, hown, hts, hin, hU, hA, hSt, hZ⟩ := id C
  obtain ⟨x, y, S', rfl, hop⟩ := hop
  exact lv_iadd (x := x) (y := y) (rest := S'.map (xv ad st)) hx hb hd (hop l p e s m args below meth cd D cA st A FQ n0 ad0 ad ls H locs C hh hl ⟨hv.1, vcn trivial (vtl (vtl hv.2))⟩ hc hr)⟩
theorem ok_isub (hd : decode M.2.1 pc = .ok (.isub, 1)) (hn : pc + 1 = n) : xOK Z M pc (o_ii (fun x y => x - y) n) := ⟨m_ii, by
  subst hn
  intro L S AH c Q hop l p e s m args below meth cd D cA st A FQ n0 ad0 ad ls H locs C hh hl hv hc hr
  obtain ⟨hx, hb, hml, hown, hts, hin, hU, hA, hSt, hZ⟩ := id C
  obtain ⟨x, y, S', rfl, hop⟩ := hop
  exact lv_isub (x := x) (y := y) (rest := S'.map (xv ad st)) hx hb hd (hop l p e s m args below meth cd D cA st A FQ n0 ad0 ad ls H locs C hh hl ⟨hv.1, vcn trivial (vtl (vtl hv.2))⟩ hc hr)⟩
theorem ok_imul (hd : decode M.2.1 pc = .ok (.imul, 1)) (hn : pc + 1 = n) : xOK Z M pc (o_ii (fun x y => x * y) n) := ⟨m_ii, by
  subst hn
  intro L S AH c Q hop l p e s m args below meth cd D cA st A FQ n0 ad0 ad ls H locs C hh hl hv hc hr
  obtain ⟨hx, hb, hml, hown, hts, hin, hU, hA, hSt, hZ⟩ := id C
  obtain ⟨x, y, S', rfl, hop⟩ := hop
  exact lv_imul (x := x) (y := y) (rest := S'.map (xv ad st)) hx hb hd (hop l p e s m args below meth cd D cA st A FQ n0 ad0 ad ls H locs C hh hl ⟨hv.1, vcn trivial (vtl (vtl hv.2))⟩ hc hr)⟩
theorem ok_iand (hd : decode M.2.1 pc = .ok (.iand, 1)) (hn : pc + 1 = n) : xOK Z M pc (o_ii (fun x y => x &&& y) n) := ⟨m_ii, by
  subst hn
  intro L S AH c Q hop l p e s m args below meth cd D cA st A FQ n0 ad0 ad ls H locs C hh hl hv hc hr
  obtain ⟨hx, hb, hml, hown, hts, hin, hU, hA, hSt, hZ⟩ := id C
  obtain ⟨x, y, S', rfl, hop⟩ := hop
  exact lv_iand (x := x) (y := y) (rest := S'.map (xv ad st)) hx hb hd (hop l p e s m args below meth cd D cA st A FQ n0 ad0 ad ls H locs C hh hl ⟨hv.1, vcn trivial (vtl (vtl hv.2))⟩ hc hr)⟩
theorem ok_ior (hd : decode M.2.1 pc = .ok (.ior, 1)) (hn : pc + 1 = n) : xOK Z M pc (o_ii (fun x y => x ||| y) n) := ⟨m_ii, by
  subst hn
  intro L S AH c Q hop l p e s m args below meth cd D cA st A FQ n0 ad0 ad ls H locs C hh hl hv hc hr
  obtain ⟨hx, hb, hml, hown, hts, hin, hU, hA, hSt, hZ⟩ := id C
  obtain ⟨x, y, S', rfl, hop⟩ := hop
  exact lv_ior (x := x) (y := y) (rest := S'.map (xv ad st)) hx hb hd (hop l p e s m args below meth cd D cA st A FQ n0 ad0 ad ls H locs C hh hl ⟨hv.1, vcn trivial (vtl (vtl hv.2))⟩ hc hr)⟩
theorem ok_ixor (hd : decode M.2.1 pc = .ok (.ixor, 1)) (hn : pc + 1 = n) : xOK Z M pc (o_ii (fun x y => x ^^^ y) n) := ⟨m_ii, by
  subst hn
  intro L S AH c Q hop l p e s m args below meth cd D cA st A FQ n0 ad0 ad ls H locs C hh hl hv hc hr
  obtain ⟨hx, hb, hml, hown, hts, hin, hU, hA, hSt, hZ⟩ := id C
  obtain ⟨x, y, S', rfl, hop⟩ := hop
  exact lv_ixor (x := x) (y := y) (rest := S'.map (xv ad st)) hx hb hd (hop l p e s m args below meth cd D cA st A FQ n0 ad0 ad ls H locs C hh hl ⟨hv.1, vcn trivial (vtl (vtl hv.2))⟩ hc hr)⟩
theorem ok_ishl (hd : decode M.2.1 pc = .ok (.ishl, 1)) (hn : pc + 1 = n) : xOK Z M pc (o_ii (fun x y => x <<< (y &&& 31)) n) := ⟨m_ii, by
  subst hn
  intro L S AH c Q hop l p e s m args below meth cd D cA st A FQ n0 ad0 ad ls H locs C hh hl hv hc hr
  obtain ⟨hx, hb, hml, hown, hts, hin, hU, hA, hSt, hZ⟩ := id C
  obtain ⟨x, y, S', rfl, hop⟩ := hop
  exact lv_ishl (x := x) (y := y) (rest := S'.map (xv ad st)) hx hb hd (hop l p e s m args below meth cd D cA st A FQ n0 ad0 ad ls H locs C hh hl ⟨hv.1, vcn trivial (vtl (vtl hv.2))⟩ hc hr)⟩
theorem ok_ishr (hd : decode M.2.1 pc = .ok (.ishr, 1)) (hn : pc + 1 = n) : xOK Z M pc (o_ii (fun x y => x >>> (y &&& 31)) n) := ⟨m_ii, by
  subst hn
  intro L S AH c Q hop l p e s m args below meth cd D cA st A FQ n0 ad0 ad ls H locs C hh hl hv hc hr
  obtain ⟨hx, hb, hml, hown, hts, hin, hU, hA, hSt, hZ⟩ := id C
  obtain ⟨x, y, S', rfl, hop⟩ := hop
  exact lv_ishr (x := x) (y := y) (rest := S'.map (xv ad st)) hx hb hd (hop l p e s m args below meth cd D cA st A FQ n0 ad0 ad ls H locs C hh hl ⟨hv.1, vcn trivial (vtl (vtl hv.2))⟩ hc hr)⟩
theorem ok_ladd (hd : decode M.2.1 pc = .ok (.ladd, 1)) (hn : pc + 1 = n) : xOK Z M pc (o_ll (fun x y => x + y) n) := ⟨m_ll, by
  subst hn
  intro L S AH c Q hop l p e s m args below meth cd D cA st A FQ n0 ad0 ad ls H locs C hh hl hv hc hr
  obtain ⟨hx, hb, hml, hown, hts, hin, hU, hA, hSt, hZ⟩ := id C
  obtain ⟨x, y, S', rfl, hop⟩ := hop
  exact lv_ladd (x := x) (y := y) (rest := S'.map (xv ad st)) hx hb hd (hop l p e s m args below meth cd D cA st A FQ n0 ad0 ad ls H locs C hh hl ⟨hv.1, vcn trivial (vtl (vtl hv.2))⟩ hc hr)⟩
theorem ok_lsub (hd : decode M.2.1 pc = .ok (.lsub, 1)) (hn : pc + 1 = n) : xOK Z M pc (o_ll (fun x y => x - y) n) := ⟨m_ll, by
  subst hn
  intro L S AH c Q hop l p e s m args below meth cd D cA st A FQ n0 ad0 ad ls H locs C hh hl hv hc hr
  obtain ⟨hx, hb, hml, hown, hts, hin, hU, hA, hSt, hZ⟩ := id C
  obtain ⟨x, y, S', rfl, hop⟩ := hop
  exact lv_lsub (x := x) (y := y) (rest := S'.map (xv ad st)) hx hb hd (hop l p e s m args below meth cd D cA st A FQ n0 ad0 ad ls H locs C hh hl ⟨hv.1, vcn trivial (vtl (vtl hv.2))⟩ hc hr)⟩
theorem ok_lmul (hd : decode M.2.1 pc = .ok (.lmul, 1)) (hn : pc + 1 = n) : xOK Z M pc (o_ll (fun x y => x * y) n) := ⟨m_ll, by
  subst hn
  intro L S AH c Q hop l p e s m args below meth cd D cA st A FQ n0 ad0 ad ls H locs C hh hl hv hc hr
  obtain ⟨hx, hb, hml, hown, hts, hin, hU, hA, hSt, hZ⟩ := id C
  obtain ⟨x, y, S', rfl, hop⟩ := hop
  exact lv_lmul (x := x) (y := y) (rest := S'.map (xv ad st)) hx hb hd (hop l p e s m args below meth cd D cA st A FQ n0 ad0 ad ls H locs C hh hl ⟨hv.1, vcn trivial (vtl (vtl hv.2))⟩ hc hr)⟩
theorem ok_land (hd : decode M.2.1 pc = .ok (.land, 1)) (hn : pc + 1 = n) : xOK Z M pc (o_ll (fun x y => x &&& y) n) := ⟨m_ll, by
  subst hn
  intro L S AH c Q hop l p e s m args below meth cd D cA st A FQ n0 ad0 ad ls H locs C hh hl hv hc hr
  obtain ⟨hx, hb, hml, hown, hts, hin, hU, hA, hSt, hZ⟩ := id C
  obtain ⟨x, y, S', rfl, hop⟩ := hop
  exact lv_land (x := x) (y := y) (rest := S'.map (xv ad st)) hx hb hd (hop l p e s m args below meth cd D cA st A FQ n0 ad0 ad ls H locs C hh hl ⟨hv.1, vcn trivial (vtl (vtl hv.2))⟩ hc hr)⟩
theorem ok_lor (hd : decode M.2.1 pc = .ok (.lor, 1)) (hn : pc + 1 = n) : xOK Z M pc (o_ll (fun x y => x ||| y) n) := ⟨m_ll, by
  subst hn
  intro L S AH c Q hop l p e s m args below meth cd D cA st A FQ n0 ad0 ad ls H locs C hh hl hv hc hr
  obtain ⟨hx, hb, hml, hown, hts, hin, hU, hA, hSt, hZ⟩ := id C
  obtain ⟨x, y, S', rfl, hop⟩ := hop
  exact lv_lor (x := x) (y := y) (rest := S'.map (xv ad st)) hx hb hd (hop l p e s m args below meth cd D cA st A FQ n0 ad0 ad ls H locs C hh hl ⟨hv.1, vcn trivial (vtl (vtl hv.2))⟩ hc hr)⟩
theorem ok_lxor (hd : decode M.2.1 pc = .ok (.lxor, 1)) (hn : pc + 1 = n) : xOK Z M pc (o_ll (fun x y => x ^^^ y) n) := ⟨m_ll, by
  subst hn
  intro L S AH c Q hop l p e s m args below meth cd D cA st A FQ n0 ad0 ad ls H locs C hh hl hv hc hr
  obtain ⟨hx, hb, hml, hown, hts, hin, hU, hA, hSt, hZ⟩ := id C
  obtain ⟨x, y, S', rfl, hop⟩ := hop
  exact lv_lxor (x := x) (y := y) (rest := S'.map (xv ad st)) hx hb hd (hop l p e s m args below meth cd D cA st A FQ n0 ad0 ad ls H locs C hh hl ⟨hv.1, vcn trivial (vtl (vtl hv.2))⟩ hc hr)⟩
theorem ok_lcmp (hd : decode M.2.1 pc = .ok (.lcmp, 1)) (hn : pc + 1 = n) : xOK Z M pc (o_lli (fun x y => lg_cmp x y) n) := ⟨m_lli, by
  subst hn
  intro L S AH c Q hop l p e s m args below meth cd D cA st A FQ n0 ad0 ad ls H locs C hh hl hv hc hr
  obtain ⟨hx, hb, hml, hown, hts, hin, hU, hA, hSt, hZ⟩ := id C
  obtain ⟨x, y, S', rfl, hop⟩ := hop
  exact W.lcmp (x := x) (y := y) (rest := S'.map (xv ad st)) hx hb hd (hop l p e s m args below meth cd D cA st A FQ n0 ad0 ad ls H locs C hh hl ⟨hv.1, vcn trivial (vtl (vtl hv.2))⟩ hc hr)⟩
theorem ok_lshl (hd : decode M.2.1 pc = .ok (.lshl, 1)) (hn : pc + 1 = n) : xOK Z M pc (o_lil (fun x y => x <<< (y.toInt64 &&& 63)) n) := ⟨m_lil, by
  subst hn
  intro L S AH c Q hop l p e s m args below meth cd D cA st A FQ n0 ad0 ad ls H locs C hh hl hv hc hr
  obtain ⟨hx, hb, hml, hown, hts, hin, hU, hA, hSt, hZ⟩ := id C
  obtain ⟨x, y, S', rfl, hop⟩ := hop
  exact lv_lshl (x := x) (y := y) (rest := S'.map (xv ad st)) hx hb hd rfl (hop l p e s m args below meth cd D cA st A FQ n0 ad0 ad ls H locs C hh hl ⟨hv.1, vcn trivial (vtl (vtl hv.2))⟩ hc hr)⟩
theorem ok_lshr (hd : decode M.2.1 pc = .ok (.lshr, 1)) (hn : pc + 1 = n) : xOK Z M pc (o_lil (fun x y => x >>> (y.toInt64 &&& 63)) n) := ⟨m_lil, by
  subst hn
  intro L S AH c Q hop l p e s m args below meth cd D cA st A FQ n0 ad0 ad ls H locs C hh hl hv hc hr
  obtain ⟨hx, hb, hml, hown, hts, hin, hU, hA, hSt, hZ⟩ := id C
  obtain ⟨x, y, S', rfl, hop⟩ := hop
  exact lv_lshr (x := x) (y := y) (rest := S'.map (xv ad st)) hx hb hd rfl (hop l p e s m args below meth cd D cA st A FQ n0 ad0 ad ls H locs C hh hl ⟨hv.1, vcn trivial (vtl (vtl hv.2))⟩ hc hr)⟩
theorem ok_lushr (hd : decode M.2.1 pc = .ok (.lushr, 1)) (hn : pc + 1 = n) : xOK Z M pc (o_lil (fun x y => (x.toUInt64 >>> (y.toInt64.toUInt64 &&& Int64.toUInt64 63)).toInt64) n) := ⟨m_lil, by
  subst hn
  intro L S AH c Q hop l p e s m args below meth cd D cA st A FQ n0 ad0 ad ls H locs C hh hl hv hc hr
  obtain ⟨hx, hb, hml, hown, hts, hin, hU, hA, hSt, hZ⟩ := id C
  obtain ⟨x, y, S', rfl, hop⟩ := hop
  exact lv_lushr (x := x) (y := y) (rest := S'.map (xv ad st)) hx hb hd rfl (hop l p e s m args below meth cd D cA st A FQ n0 ad0 ad ls H locs C hh hl ⟨hv.1, vcn trivial (vtl (vtl hv.2))⟩ hc hr)⟩
def o_idiv (n : Nat) : xOp := fun L S AH c k _ => ∃ (x y : Int32) (S' : List Value), S = .int y :: .int x :: S' ∧ ¬ y = 0 ∧ k n L (.int (x / y) :: S') AH c
theorem m_idiv : xMono (o_idiv n) := fun _ _ _ _ _ _ _ hk ⟨x, y, S', h1, h2, h⟩ => ⟨x, y, S', h1, h2, hk _ _ _ _ _ h⟩
theorem ok_idiv (hd : decode M.2.1 pc = .ok (.idiv, 1)) (hn : pc + 1 = n) : xOK Z M pc (o_idiv n) := ⟨m_idiv, by
  subst hn
  intro L S AH c Q hop l p e s m args below meth cd D cA st A FQ n0 ad0 ad ls H locs C hh hl hv hc hr
  obtain ⟨hx, hb, hml, hown, hts, hin, hU, hA, hSt, hZ⟩ := id C
  obtain ⟨x, y, S', rfl, h2, hop⟩ := hop
  exact lv_idiv (x := x) (y := y) (rest := S'.map (xv ad st)) hx hb hd h2 (hop l p e s m args below meth cd D cA st A FQ n0 ad0 ad ls H locs C hh hl ⟨hv.1, vcn trivial (vtl (vtl hv.2))⟩ hc hr)⟩
def o_irem (n : Nat) : xOp := fun L S AH c k _ => ∃ (x y : Int32) (S' : List Value), S = .int y :: .int x :: S' ∧ ¬ y = 0 ∧ k n L (.int (x - x / y * y) :: S') AH c
theorem m_irem : xMono (o_irem n) := fun _ _ _ _ _ _ _ hk ⟨x, y, S', h1, h2, h⟩ => ⟨x, y, S', h1, h2, hk _ _ _ _ _ h⟩
theorem ok_irem (hd : decode M.2.1 pc = .ok (.irem, 1)) (hn : pc + 1 = n) : xOK Z M pc (o_irem n) := ⟨m_irem, by
  subst hn
  intro L S AH c Q hop l p e s m args below meth cd D cA st A FQ n0 ad0 ad ls H locs C hh hl hv hc hr
  obtain ⟨hx, hb, hml, hown, hts, hin, hU, hA, hSt, hZ⟩ := id C
  obtain ⟨x, y, S', rfl, h2, hop⟩ := hop
  exact lv_irem (x := x) (y := y) (rest := S'.map (xv ad st)) hx hb hd h2 (hop l p e s m args below meth cd D cA st A FQ n0 ad0 ad ls H locs C hh hl ⟨hv.1, vcn trivial (vtl (vtl hv.2))⟩ hc hr)⟩
def o_ldiv (n : Nat) : xOp := fun L S AH c k _ => ∃ (x y : Int64) (S' : List Value), S = .long y :: .long x :: S' ∧ ¬ y = 0 ∧ k n L (.long (x / y) :: S') AH c
theorem m_ldiv : xMono (o_ldiv n) := fun _ _ _ _ _ _ _ hk ⟨x, y, S', h1, h2, h⟩ => ⟨x, y, S', h1, h2, hk _ _ _ _ _ h⟩
theorem ok_ldiv (hd : decode M.2.1 pc = .ok (.ldiv, 1)) (hn : pc + 1 = n) : xOK Z M pc (o_ldiv n) := ⟨m_ldiv, by
  subst hn
  intro L S AH c Q hop l p e s m args below meth cd D cA st A FQ n0 ad0 ad ls H locs C hh hl hv hc hr
  obtain ⟨hx, hb, hml, hown, hts, hin, hU, hA, hSt, hZ⟩ := id C
  obtain ⟨x, y, S', rfl, h2, hop⟩ := hop
  exact lv_ldiv (x := x) (y := y) (rest := S'.map (xv ad st)) hx hb hd h2 (hop l p e s m args below meth cd D cA st A FQ n0 ad0 ad ls H locs C hh hl ⟨hv.1, vcn trivial (vtl (vtl hv.2))⟩ hc hr)⟩
def o_lrem (n : Nat) : xOp := fun L S AH c k _ => ∃ (x y : Int64) (S' : List Value), S = .long y :: .long x :: S' ∧ ¬ y = 0 ∧ k n L (.long (x - x / y * y) :: S') AH c
theorem m_lrem : xMono (o_lrem n) := fun _ _ _ _ _ _ _ hk ⟨x, y, S', h1, h2, h⟩ => ⟨x, y, S', h1, h2, hk _ _ _ _ _ h⟩
theorem ok_lrem (hd : decode M.2.1 pc = .ok (.lrem, 1)) (hn : pc + 1 = n) : xOK Z M pc (o_lrem n) := ⟨m_lrem, by
  subst hn
  intro L S AH c Q hop l p e s m args below meth cd D cA st A FQ n0 ad0 ad ls H locs C hh hl hv hc hr
  obtain ⟨hx, hb, hml, hown, hts, hin, hU, hA, hSt, hZ⟩ := id C
  obtain ⟨x, y, S', rfl, h2, hop⟩ := hop
  exact lv_lrem (x := x) (y := y) (rest := S'.map (xv ad st)) hx hb hd h2 (hop l p e s m args below meth cd D cA st A FQ n0 ad0 ad ls H locs C hh hl ⟨hv.1, vcn trivial (vtl (vtl hv.2))⟩ hc hr)⟩
def xc1 : Value → Prop
  | .long _ => False
  | .double _ => False
  | _ => True
theorem xc1_cat {v : Value} (h : xc1 v) : v.category = 1 := by cases v <;> first | rfl | exact h.elim
def o_dup (n : Nat) : xOp := fun L S AH c k _ => ∃ (v : Value) (S' : List Value), S = v :: S' ∧ xc1 v ∧ k n L (v :: v :: S') AH c
theorem m_dup : xMono (o_dup n) := fun _ _ _ _ _ _ _ hk ⟨v, S', h1, h2, h⟩ => ⟨v, S', h1, h2, hk _ _ _ _ _ h⟩
theorem ok_dup (hd : decode M.2.1 pc = .ok (.dup, 1)) (hn : pc + 1 = n) : xOK Z M pc (o_dup n) := ⟨m_dup, by
  subst hn
  intro L S AH c Q hop l p e s m args below meth cd D cA st A FQ n0 ad0 ad ls H locs C hh hl hv hc hr
  obtain ⟨hx, hb, hml, hown, hts, hin, hU, hA, hSt, hZ⟩ := id C
  obtain ⟨v, S', rfl, h2, hop⟩ := hop
  exact lv_dup (va := xv ad st v) (rest := S'.map (xv ad st)) hx hb hd (by rw [xv_cat]; exact xc1_cat h2) (hop l p e s m args below meth cd D cA st A FQ n0 ad0 ad ls H locs C hh hl ⟨hv.1, vcn (vhd hv.2) hv.2⟩ hc hr)⟩
def o_dup2 (n : Nat) : xOp := fun L S AH c k _ => ∃ (v w : Value) (S' : List Value), S = v :: w :: S' ∧ xc1 v ∧ xc1 w ∧ k n L (v :: w :: v :: w :: S') AH c
theorem m_dup2 : xMono (o_dup2 n) := fun _ _ _ _ _ _ _ hk ⟨v, w, S', h1, h2, h3, h⟩ => ⟨v, w, S', h1, h2, h3, hk _ _ _ _ _ h⟩
theorem ok_dup2 (hd : decode M.2.1 pc = .ok (.dup2, 1)) (hn : pc + 1 = n) : xOK Z M pc (o_dup2 n) := ⟨m_dup2, by
  subst hn
  intro L S AH c Q hop l p e s m args below meth cd D cA st A FQ n0 ad0 ad ls H locs C hh hl hv hc hr
  obtain ⟨hx, hb, hml, hown, hts, hin, hU, hA, hSt, hZ⟩ := id C
  obtain ⟨v, w, S', rfl, h2, h3, hop⟩ := hop
  exact lv_dup2_11 (va := xv ad st v) (vb := xv ad st w) (rest := S'.map (xv ad st)) hx hb hd (by rw [xv_cat]; exact xc1_cat h2) (by rw [xv_cat]; exact xc1_cat h3) (hop l p e s m args below meth cd D cA st A FQ n0 ad0 ad ls H locs C hh hl ⟨hv.1, vcn (vhd hv.2) (vcn (vhd (vtl hv.2)) hv.2)⟩ hc hr)⟩
def o_pop (n : Nat) : xOp := fun L S AH c k _ => ∃ (v : Value) (S' : List Value), S = v :: S' ∧ xc1 v ∧ k n L S' AH c
theorem m_pop : xMono (o_pop n) := fun _ _ _ _ _ _ _ hk ⟨v, S', h1, h2, h⟩ => ⟨v, S', h1, h2, hk _ _ _ _ _ h⟩
theorem ok_pop (hd : decode M.2.1 pc = .ok (.pop, 1)) (hn : pc + 1 = n) : xOK Z M pc (o_pop n) := ⟨m_pop, by
  subst hn
  intro L S AH c Q hop l p e s m args below meth cd D cA st A FQ n0 ad0 ad ls H locs C hh hl hv hc hr
  obtain ⟨hx, hb, hml, hown, hts, hin, hU, hA, hSt, hZ⟩ := id C
  obtain ⟨v, S', rfl, h2, hop⟩ := hop
  exact lv_pop (va := xv ad st v) (rest := S'.map (xv ad st)) hx hb hd (by rw [xv_cat]; exact xc1_cat h2) (hop l p e s m args below meth cd D cA st A FQ n0 ad0 ad ls H locs C hh hl ⟨hv.1, vtl hv.2⟩ hc hr)⟩
def o_if (q : Int32 → Prop) (t n : Nat) : xOp := fun L S AH c k _ => ∃ (x : Int32) (S' : List Value), S = .int x :: S' ∧ (q x → k t L S' AH c) ∧ (¬ q x → k n L S' AH c)
theorem m_if {q : Int32 → Prop} {t : Nat} : xMono (o_if q t n) := fun _ _ _ _ _ _ _ hk ⟨x, S', h1, h2, h3⟩ => ⟨x, S', h1, fun h => hk _ _ _ _ _ (h2 h), fun h => hk _ _ _ _ _ (h3 h)⟩
theorem ok_if_eq {z : Int} {t : Nat} (hd : decode M.2.1 pc = .ok (.ifCond .eq z, 3)) (ht : (pc : Int) + z = (t : Int)) (hn : pc + 3 = n) : xOK Z M pc (o_if (fun x => x = 0) t n) := ⟨m_if, by
  subst hn
  intro L S AH c Q hop l p e s m args below meth cd D cA st A FQ n0 ad0 ad ls H locs C hh hl hv hc hr
  obtain ⟨hx, hb, hml, hown, hts, hin, hU, hA, hSt, hZ⟩ := id C
  obtain ⟨x, S', rfl, h2, h3⟩ := hop
  exact lv_if_eq (x := x) (rest := S'.map (xv ad st)) hx hb hd ht (fun h => h2 h l p e s m args below meth cd D cA st A FQ n0 ad0 ad ls H locs C hh hl ⟨hv.1, vtl hv.2⟩ hc hr) (fun h => h3 h l p e s m args below meth cd D cA st A FQ n0 ad0 ad ls H locs C hh hl ⟨hv.1, vtl hv.2⟩ hc hr)⟩
theorem ok_if_ne {z : Int} {t : Nat} (hd : decode M.2.1 pc = .ok (.ifCond .ne z, 3)) (ht : (pc : Int) + z = (t : Int)) (hn : pc + 3 = n) : xOK Z M pc (o_if (fun x => ¬ x = 0) t n) := ⟨m_if, by
  subst hn
  intro L S AH c Q hop l p e s m args below meth cd D cA st A FQ n0 ad0 ad ls H locs C hh hl hv hc hr
  obtain ⟨hx, hb, hml, hown, hts, hin, hU, hA, hSt, hZ⟩ := id C
  obtain ⟨x, S', rfl, h2, h3⟩ := hop
  exact lv_if_ne (x := x) (rest := S'.map (xv ad st)) hx hb hd ht (fun h => h2 h l p e s m args below meth cd D cA st A FQ n0 ad0 ad ls H locs C hh hl ⟨hv.1, vtl hv.2⟩ hc hr) (fun h => h3 (fun g => g h) l p e s m args below meth cd D cA st A FQ n0 ad0 ad ls H locs C hh hl ⟨hv.1, vtl hv.2⟩ hc hr)⟩
theorem ok_if_lt {z : Int} {t : Nat} (hd : decode M.2.1 pc = .ok (.ifCond .lt z, 3)) (ht : (pc : Int) + z = (t : Int)) (hn : pc + 3 = n) : xOK Z M pc (o_if (fun x => x < 0) t n) := ⟨m_if, by
  subst hn
  intro L S AH c Q hop l p e s m args below meth cd D cA st A FQ n0 ad0 ad ls H locs C hh hl hv hc hr
  obtain ⟨hx, hb, hml, hown, hts, hin, hU, hA, hSt, hZ⟩ := id C
  obtain ⟨x, S', rfl, h2, h3⟩ := hop
  exact lv_if_lt (x := x) (rest := S'.map (xv ad st)) hx hb hd ht (fun h => h2 h l p e s m args below meth cd D cA st A FQ n0 ad0 ad ls H locs C hh hl ⟨hv.1, vtl hv.2⟩ hc hr) (fun h => h3 h l p e s m args below meth cd D cA st A FQ n0 ad0 ad ls H locs C hh hl ⟨hv.1, vtl hv.2⟩ hc hr)⟩
theorem ok_if_ge {z : Int} {t : Nat} (hd : decode M.2.1 pc = .ok (.ifCond .ge z, 3)) (ht : (pc : Int) + z = (t : Int)) (hn : pc + 3 = n) : xOK Z M pc (o_if (fun x => 0 ≤ x) t n) := ⟨m_if, by
  subst hn
  intro L S AH c Q hop l p e s m args below meth cd D cA st A FQ n0 ad0 ad ls H locs C hh hl hv hc hr
  obtain ⟨hx, hb, hml, hown, hts, hin, hU, hA, hSt, hZ⟩ := id C
  obtain ⟨x, S', rfl, h2, h3⟩ := hop
  exact lv_if_ge (x := x) (rest := S'.map (xv ad st)) hx hb hd ht (fun h => h2 h l p e s m args below meth cd D cA st A FQ n0 ad0 ad ls H locs C hh hl ⟨hv.1, vtl hv.2⟩ hc hr) (fun h => h3 h l p e s m args below meth cd D cA st A FQ n0 ad0 ad ls H locs C hh hl ⟨hv.1, vtl hv.2⟩ hc hr)⟩
theorem ok_if_gt {z : Int} {t : Nat} (hd : decode M.2.1 pc = .ok (.ifCond .gt z, 3)) (ht : (pc : Int) + z = (t : Int)) (hn : pc + 3 = n) : xOK Z M pc (o_if (fun x => 0 < x) t n) := ⟨m_if, by
  subst hn
  intro L S AH c Q hop l p e s m args below meth cd D cA st A FQ n0 ad0 ad ls H locs C hh hl hv hc hr
  obtain ⟨hx, hb, hml, hown, hts, hin, hU, hA, hSt, hZ⟩ := id C
  obtain ⟨x, S', rfl, h2, h3⟩ := hop
  exact lv_if_gt (x := x) (rest := S'.map (xv ad st)) hx hb hd ht (fun h => h2 h l p e s m args below meth cd D cA st A FQ n0 ad0 ad ls H locs C hh hl ⟨hv.1, vtl hv.2⟩ hc hr) (fun h => h3 h l p e s m args below meth cd D cA st A FQ n0 ad0 ad ls H locs C hh hl ⟨hv.1, vtl hv.2⟩ hc hr)⟩
theorem ok_if_le {z : Int} {t : Nat} (hd : decode M.2.1 pc = .ok (.ifCond .le z, 3)) (ht : (pc : Int) + z = (t : Int)) (hn : pc + 3 = n) : xOK Z M pc (o_if (fun x => x ≤ 0) t n) := ⟨m_if, by
  subst hn
  intro L S AH c Q hop l p e s m args below meth cd D cA st A FQ n0 ad0 ad ls H locs C hh hl hv hc hr
  obtain ⟨hx, hb, hml, hown, hts, hin, hU, hA, hSt, hZ⟩ := id C
  obtain ⟨x, S', rfl, h2, h3⟩ := hop
  exact lv_if_le (x := x) (rest := S'.map (xv ad st)) hx hb hd ht (fun h => h2 h l p e s m args below meth cd D cA st A FQ n0 ad0 ad ls H locs C hh hl ⟨hv.1, vtl hv.2⟩ hc hr) (fun h => h3 h l p e s m args below meth cd D cA st A FQ n0 ad0 ad ls H locs C hh hl ⟨hv.1, vtl hv.2⟩ hc hr)⟩
def o_icmp (q : Int32 → Int32 → Prop) (t n : Nat) : xOp := fun L S AH c k _ => ∃ (x y : Int32) (S' : List Value), S = .int y :: .int x :: S' ∧ (q x y → k t L S' AH c) ∧ (¬ q x y → k n L S' AH c)
theorem m_icmp {q : Int32 → Int32 → Prop} {t : Nat} : xMono (o_icmp q t n) := fun _ _ _ _ _ _ _ hk ⟨x, y, S', h1, h2, h3⟩ => ⟨x, y, S', h1, fun h => hk _ _ _ _ _ (h2 h), fun h => hk _ _ _ _ _ (h3 h)⟩
theorem ok_icmp_eq {z : Int} {t : Nat} (hd : decode M.2.1 pc = .ok (.if_icmp .eq z, 3)) (ht : (pc : Int) + z = (t : Int)) (hn : pc + 3 = n) : xOK Z M pc (o_icmp (fun x y => x = y) t n) := ⟨m_icmp, by
  subst hn
  intro L S AH c Q hop l p e s m args below meth cd D cA st A FQ n0 ad0 ad ls H locs C hh hl hv hc hr
  obtain ⟨hx, hb, hml, hown, hts, hin, hU, hA, hSt, hZ⟩ := id C
  obtain ⟨x, y, S', rfl, h2, h3⟩ := hop
  exact lv_icmp_eq (x := x) (y := y) (rest := S'.map (xv ad st)) hx hb hd ht (fun h => h2 h l p e s m args below meth cd D cA st A FQ n0 ad0 ad ls H locs C hh hl ⟨hv.1, vtl (vtl hv.2)⟩ hc hr) (fun h => h3 h l p e s m args below meth cd D cA st A FQ n0 ad0 ad ls H locs C hh hl ⟨hv.1, vtl (vtl hv.2)⟩ hc hr)⟩
theorem ok_icmp_ne {z : Int} {t : Nat} (hd : decode M.2.1 pc = .ok (.if_icmp .ne z, 3)) (ht : (pc : Int) + z = (t : Int)) (hn : pc + 3 = n) : xOK Z M pc (o_icmp (fun x y => ¬ x = y) t n) := ⟨m_icmp, by
  subst hn
  intro L S AH c Q hop l p e s m args below meth cd D cA st A FQ n0 ad0 ad ls H locs C hh hl hv hc hr
  obtain ⟨hx, hb, hml, hown, hts, hin, hU, hA, hSt, hZ⟩ := id C
  obtain ⟨x, y, S', rfl, h2, h3⟩ := hop
  exact lv_icmp_ne (x := x) (y := y) (rest := S'.map (xv ad st)) hx hb hd ht (fun h => h2 h l p e s m args below meth cd D cA st A FQ n0 ad0 ad ls H locs C hh hl ⟨hv.1, vtl (vtl hv.2)⟩ hc hr) (fun h => h3 (fun g => g h) l p e s m args below meth cd D cA st A FQ n0 ad0 ad ls H locs C hh hl ⟨hv.1, vtl (vtl hv.2)⟩ hc hr)⟩
theorem ok_icmp_lt {z : Int} {t : Nat} (hd : decode M.2.1 pc = .ok (.if_icmp .lt z, 3)) (ht : (pc : Int) + z = (t : Int)) (hn : pc + 3 = n) : xOK Z M pc (o_icmp (fun x y => x < y) t n) := ⟨m_icmp, by
  subst hn
  intro L S AH c Q hop l p e s m args below meth cd D cA st A FQ n0 ad0 ad ls H locs C hh hl hv hc hr
  obtain ⟨hx, hb, hml, hown, hts, hin, hU, hA, hSt, hZ⟩ := id C
  obtain ⟨x, y, S', rfl, h2, h3⟩ := hop
  exact lv_icmp_lt (x := x) (y := y) (rest := S'.map (xv ad st)) hx hb hd ht (fun h => h2 h l p e s m args below meth cd D cA st A FQ n0 ad0 ad ls H locs C hh hl ⟨hv.1, vtl (vtl hv.2)⟩ hc hr) (fun h => h3 h l p e s m args below meth cd D cA st A FQ n0 ad0 ad ls H locs C hh hl ⟨hv.1, vtl (vtl hv.2)⟩ hc hr)⟩
theorem ok_icmp_ge {z : Int} {t : Nat} (hd : decode M.2.1 pc = .ok (.if_icmp .ge z, 3)) (ht : (pc : Int) + z = (t : Int)) (hn : pc + 3 = n) : xOK Z M pc (o_icmp (fun x y => y ≤ x) t n) := ⟨m_icmp, by
  subst hn
  intro L S AH c Q hop l p e s m args below meth cd D cA st A FQ n0 ad0 ad ls H locs C hh hl hv hc hr
  obtain ⟨hx, hb, hml, hown, hts, hin, hU, hA, hSt, hZ⟩ := id C
  obtain ⟨x, y, S', rfl, h2, h3⟩ := hop
  exact lv_icmp_ge (x := x) (y := y) (rest := S'.map (xv ad st)) hx hb hd ht (fun h => h2 h l p e s m args below meth cd D cA st A FQ n0 ad0 ad ls H locs C hh hl ⟨hv.1, vtl (vtl hv.2)⟩ hc hr) (fun h => h3 h l p e s m args below meth cd D cA st A FQ n0 ad0 ad ls H locs C hh hl ⟨hv.1, vtl (vtl hv.2)⟩ hc hr)⟩
theorem ok_icmp_gt {z : Int} {t : Nat} (hd : decode M.2.1 pc = .ok (.if_icmp .gt z, 3)) (ht : (pc : Int) + z = (t : Int)) (hn : pc + 3 = n) : xOK Z M pc (o_icmp (fun x y => y < x) t n) := ⟨m_icmp, by
  subst hn
  intro L S AH c Q hop l p e s m args below meth cd D cA st A FQ n0 ad0 ad ls H locs C hh hl hv hc hr
  obtain ⟨hx, hb, hml, hown, hts, hin, hU, hA, hSt, hZ⟩ := id C
  obtain ⟨x, y, S', rfl, h2, h3⟩ := hop
  exact lv_icmp_gt (x := x) (y := y) (rest := S'.map (xv ad st)) hx hb hd ht (fun h => h2 h l p e s m args below meth cd D cA st A FQ n0 ad0 ad ls H locs C hh hl ⟨hv.1, vtl (vtl hv.2)⟩ hc hr) (fun h => h3 h l p e s m args below meth cd D cA st A FQ n0 ad0 ad ls H locs C hh hl ⟨hv.1, vtl (vtl hv.2)⟩ hc hr)⟩
theorem ok_icmp_le {z : Int} {t : Nat} (hd : decode M.2.1 pc = .ok (.if_icmp .le z, 3)) (ht : (pc : Int) + z = (t : Int)) (hn : pc + 3 = n) : xOK Z M pc (o_icmp (fun x y => x ≤ y) t n) := ⟨m_icmp, by
  subst hn
  intro L S AH c Q hop l p e s m args below meth cd D cA st A FQ n0 ad0 ad ls H locs C hh hl hv hc hr
  obtain ⟨hx, hb, hml, hown, hts, hin, hU, hA, hSt, hZ⟩ := id C
  obtain ⟨x, y, S', rfl, h2, h3⟩ := hop
  exact lv_icmp_le (x := x) (y := y) (rest := S'.map (xv ad st)) hx hb hd ht (fun h => h2 h l p e s m args below meth cd D cA st A FQ n0 ad0 ad ls H locs C hh hl ⟨hv.1, vtl (vtl hv.2)⟩ hc hr) (fun h => h3 h l p e s m args below meth cd D cA st A FQ n0 ad0 ad ls H locs C hh hl ⟨hv.1, vtl (vtl hv.2)⟩ hc hr)⟩
def o_goto (t : Nat) : xOp := fun L S AH c k _ => k t L S AH c
theorem m_goto {t : Nat} : xMono (o_goto t) := fun _ _ _ _ _ _ _ hk h => hk _ _ _ _ _ h
theorem ok_goto {z : Int} {t : Nat} (hd : decode M.2.1 pc = .ok (.goto z, 3)) (ht : (pc : Int) + z = (t : Int)) : xOK Z M pc (o_goto t) := ⟨m_goto, by
  intro L S AH c Q hop l p e s m args below meth cd D cA st A FQ n0 ad0 ad ls H locs C hh hl hv hc hr
  obtain ⟨hx, hb, hml, hown, hts, hin, hU, hA, hSt, hZ⟩ := id C
  exact lv_goto (rest := S.map (xv ad st)) hx hb hd ht (hop l p e s m args below meth cd D cA st A FQ n0 ad0 ad ls H locs C hh hl hv hc hr)⟩
def xnul : Value → Option Bool
  | .null => some true
  | .ref _ => some false
  | .float _ => some false
  | _ => none
def o_ifnull (t n : Nat) : xOp := fun L S AH c k _ => ∃ (v : Value) (S' : List Value), S = v :: S' ∧ ((xnul v = some true ∧ k t L S' AH c) ∨ (xnul v = some false ∧ k n L S' AH c))
theorem m_ifnull {t : Nat} : xMono (o_ifnull t n) := fun _ _ _ _ _ _ _ hk ⟨v, S', h1, h⟩ => ⟨v, S', h1, h.elim (fun h => Or.inl ⟨h.1, hk _ _ _ _ _ h.2⟩) (fun h => Or.inr ⟨h.1, hk _ _ _ _ _ h.2⟩)⟩
theorem ok_ifnull {z : Int} {t : Nat} (hd : decode M.2.1 pc = .ok (.ifnull z, 3)) (ht : (pc : Int) + z = (t : Int)) (hn : pc + 3 = n) : xOK Z M pc (o_ifnull t n) := ⟨m_ifnull, by
  subst hn
  intro L S AH c Q hop l p e s m args below meth cd D cA st A FQ n0 ad0 ad ls H locs C hh hl hv hc hr
  obtain ⟨hx, hb, hml, hown, hts, hin, hU, hA, hSt, hZ⟩ := id C
  obtain ⟨v, S', rfl, hop⟩ := hop
  rcases hop with ⟨h1, hop⟩ | ⟨h1, hop⟩
  · have hop := hop l p e s m args below meth cd D cA st A FQ n0 ad0 ad ls H locs C hh hl ⟨hv.1, vtl hv.2⟩ hc hr
    cases v <;> first | (cases h1; done) | exact lv_ifnullN (rest := S'.map (xv ad st)) hx hb hd ht hop
  · have hop := hop l p e s m args below meth cd D cA st A FQ n0 ad0 ad ls H locs C hh hl ⟨hv.1, vtl hv.2⟩ hc hr
    cases v <;> first | (cases h1; done) | exact lv_ifnull (rest := S'.map (xv ad st)) hx hb hd hop⟩
def o_ifnonnull (t n : Nat) : xOp := fun L S AH c k _ => ∃ (v : Value) (S' : List Value), S = v :: S' ∧ ((xnul v = some false ∧ k t L S' AH c) ∨ (xnul v = some true ∧ k n L S' AH c))
theorem m_ifnonnull {t : Nat} : xMono (o_ifnonnull t n) := fun _ _ _ _ _ _ _ hk ⟨v, S', h1, h⟩ => ⟨v, S', h1, h.elim (fun h => Or.inl ⟨h.1, hk _ _ _ _ _ h.2⟩) (fun h => Or.inr ⟨h.1, hk _ _ _ _ _ h.2⟩)⟩
theorem ok_ifnonnull {z : Int} {t : Nat} (hd : decode M.2.1 pc = .ok (.ifnonnull z, 3)) (ht : (pc : Int) + z = (t : Int)) (hn : pc + 3 = n) : xOK Z M pc (o_ifnonnull t n) := ⟨m_ifnonnull, by
  subst hn
  intro L S AH c Q hop l p e s m args below meth cd D cA st A FQ n0 ad0 ad ls H locs C hh hl hv hc hr
  obtain ⟨hx, hb, hml, hown, hts, hin, hU, hA, hSt, hZ⟩ := id C
  obtain ⟨v, S', rfl, hop⟩ := hop
  rcases hop with ⟨h1, hop⟩ | ⟨h1, hop⟩
  · have hop := hop l p e s m args below meth cd D cA st A FQ n0 ad0 ad ls H locs C hh hl ⟨hv.1, vtl hv.2⟩ hc hr
    cases v <;> first | (cases h1; done) | exact lv_ifnonnull (rest := S'.map (xv ad st)) hx hb hd ht hop
  · have hop := hop l p e s m args below meth cd D cA st A FQ n0 ad0 ad ls H locs C hh hl ⟨hv.1, vtl hv.2⟩ hc hr
    cases v <;> first | (cases h1; done) | exact lv_ifnonnullN (rest := S'.map (xv ad st)) hx hb hd hop⟩
def xsw (x : Int32) (ps : List (Int32 × Nat)) (d : Nat) (k : Nat → Prop) : Prop := match ps with
  | [] => k d
  | q :: r => (x = q.1 → k q.2) ∧ (¬ x = q.1 → xsw x r d k)
theorem xsw.mono {x : Int32} {d : Nat} {k k' : Nat → Prop} (h : ∀ t, k t → k' t) : ∀ {ps : List (Int32 × Nat)}, xsw x ps d k → xsw x ps d k'
  | [], hx => h _ hx
  | _ :: _, hx => ⟨fun e => h _ (hx.1 e), fun e => xsw.mono h (hx.2 e)⟩
def xswt (x : Int32) (d : Nat) : List (Int32 × Nat) → Nat
  | [] => d
  | q :: r => if x = q.1 then q.2 else xswt x d r
theorem xsw.at {x : Int32} {d : Nat} {k : Nat → Prop} : ∀ {ps : List (Int32 × Nat)}, xsw x ps d k → k (xswt x d ps)
  | [], hx => hx
  | q :: r, hx => by
    unfold xswt
    by_cases e : x = q.1
    · rw [if_pos e]; exact hx.1 e
    · rw [if_neg e]; exact xsw.at (hx.2 e)
theorem xswt_out {x : Int32} {d : Nat} : ∀ {ps : List (Int32 × Nat)}, (∀ q ∈ ps, ¬ x = q.1) → xswt x d ps = d
  | [], _ => rfl
  | q :: r, h => by
    unfold xswt
    rw [if_neg (h q List.mem_cons_self)]
    exact xswt_out (fun z hz => h z (List.mem_cons_of_mem _ hz))
def o_sw (ps : List (Int32 × Nat)) (d : Nat) : xOp := fun L S AH c k _ => ∃ (x : Int32) (S' : List Value), S = .int x :: S' ∧ xsw x ps d (fun t => k t L S' AH c)
theorem m_sw {ps : List (Int32 × Nat)} {d : Nat} : xMono (o_sw ps d) := fun _ _ _ _ _ _ _ hk ⟨x, S', h1, h⟩ => ⟨x, S', h1, h.mono (fun _ h => hk _ _ _ _ _ h)⟩
theorem ok_tsw {dflt lo hi : Int} {offs : Array Int} {len : Nat} {ps : List (Int32 × Nat)} {d : Nat} (hd : decode M.2.1 pc = .ok (.tableswitch dflt lo hi offs, len)) (h0 : (pc : Int) + dflt = (d : Int)) (h1 : ps.all (fun q => decide (lo ≤ q.1.toInt ∧ q.1.toInt ≤ hi)) = true) (hb2 : -2147483648 ≤ lo ∧ hi ≤ 2147483647) (hs : hi - lo < offs.size)
    (h2 : (List.range offs.size).all (fun i => decide (((pc : Int) + offs.getD i 0) = (xswt (Int32.ofInt (lo + i)) d ps : Int))) = true) : xOK Z M pc (o_sw ps d) := ⟨m_sw, by
  intro L S AH c Q hop l p e s m args below meth cd D cA st A FQ n0 ad0 ad ls H locs C hh hl hv hc hr
  obtain ⟨hx, hb, hml, hown, hts, hin, hU, hA, hSt, hZ⟩ := id C
  obtain ⟨x, S', rfl, hop⟩ := hop
  have hop := hop.at l p e s m args below meth cd D cA st A FQ n0 ad0 ad ls H locs C hh hl ⟨hv.1, vtl hv.2⟩ hc hr
  by_cases g1 : x.toInt < lo
  · rw [xswt_out (fun q hq e => by have := List.all_eq_true.mp h1 q hq; rw [← e] at this; simp at this; omega)] at hop
    exact lv_tableOut (x := x) (rest := S'.map (xv ad st)) hx hb hd (Or.inl g1) h0 hop
  by_cases g2 : hi < x.toInt
  · rw [xswt_out (fun q hq e => by have := List.all_eq_true.mp h1 q hq; rw [← e] at this; simp at this; omega)] at hop
    exact lv_tableOut (x := x) (rest := S'.map (xv ad st)) hx hb hd (Or.inr g2) h0 hop
  have g3 : (x.toInt - lo).toNat < offs.size := by omega
  have g4 := List.all_eq_true.mp h2 _ (List.mem_range.mpr g3)
  simp only [decide_eq_true_eq] at g4
  rw [show lo + ((x.toInt - lo).toNat : Int) = x.toInt by omega, Int32.ofInt_toInt] at g4
  exact lv_tableIn (x := x) (off := offs.getD (x.toInt - lo).toNat 0) (rest := S'.map (xv ad st)) hx hb hd g1 g2 (by simp [Array.getD, g3]) g4 hop⟩
theorem xsw_off {x : Int32} {d : Nat} {pc : Int} {dflt : Int} (h0 : pc + dflt = (d : Int)) : ∀ (l : List (Int × Int)) (ps : List (Int32 × Nat)), l.map (fun q => (Int32.ofInt q.1, pc + q.2)) = ps.map (fun q => (q.1, (q.2 : Int))) → (∀ q ∈ l, (Int32.ofInt q.1).toInt = q.1) → pc + Op.lookupswitch.offset l dflt x.toInt = (xswt x d ps : Int)
  | [], [], _, _ => h0
  | [], _ :: _, h, _ => by cases h
  | _ :: _, [], h, _ => by cases h
  | a :: l, b :: ps, h, hq => by
    simp only [List.map_cons, List.cons.injEq, Prod.mk.injEq] at h
    obtain ⟨⟨e1, e2⟩, e3⟩ := h
    have ha := hq a List.mem_cons_self
    unfold xswt
    by_cases e : x = b.1
    · rw [if_pos e, ← e2]
      have : x.toInt = a.1 := by rw [e, ← e1, ha]
      simp [Op.lookupswitch.offset, this]
    · rw [if_neg e, ← xsw_off h0 l ps e3 (fun q hm => hq q (List.mem_cons_of_mem _ hm))]
      obtain ⟨a1, a2⟩ := a
      rw [lv_osw (k := b.1) e (by rw [← e1, ha])]
theorem ok_lsw {dflt : Int} {prs : Array (Int × Int)} {len : Nat} {ps : List (Int32 × Nat)} {d : Nat} (hd : decode M.2.1 pc = .ok (.lookupswitch dflt prs, len)) (hp : (prs.toList.zip (prs.toList.drop 1)).all (fun (a, next) => a.1 < next.1) = true) (h0 : (pc : Int) + dflt = (d : Int)) (h1 : prs.toList.map (fun q => (Int32.ofInt q.1, (pc : Int) + q.2)) = ps.map (fun q => (q.1, (q.2 : Int)))) (h2 : prs.toList.all (fun q => decide ((Int32.ofInt q.1).toInt = q.1)) = true) : xOK Z M pc (o_sw ps d) := ⟨m_sw, by
  intro L S AH c Q hop l p e s m args below meth cd D cA st A FQ n0 ad0 ad ls H locs C hh hl hv hc hr
  obtain ⟨hx, hb, hml, hown, hts, hin, hU, hA, hSt, hZ⟩ := id C
  obtain ⟨x, S', rfl, hop⟩ := hop
  have hop := hop.at l p e s m args below meth cd D cA st A FQ n0 ad0 ad ls H locs C hh hl ⟨hv.1, vtl hv.2⟩ hc hr
  exact lv_lookup (x := x) (rest := S'.map (xv ad st)) hx hb hd hp rfl (xsw_off h0 _ _ h1 (fun q hq => by have := List.all_eq_true.mp h2 q hq; simpa using this)) hop⟩
def o_iret : xOp := fun _ S AH c _ Q => ∃ x : Int32, S = [.int x] ∧ Q (some (.int x)) AH c
def o_zret : xOp := fun _ S AH c _ Q => ∃ x : Int32, S = [.int x] ∧ (x = 0 ∨ x = 1) ∧ Q (some (.int x)) AH c
def o_lret : xOp := fun _ S AH c _ Q => ∃ x : Int64, S = [.long x] ∧ Q (some (.long x)) AH c
def o_vret : xOp := fun _ S AH c _ Q => S = [] ∧ Q none AH c
def o_aret : xOp := fun _ S AH c _ Q => ∃ v : Value, S = [v] ∧ ((∃ a, v = .ref a) ∨ v = .null) ∧ Q (some v) AH c
theorem m_iret : xMono o_iret := fun _ _ _ _ _ _ _ _ h => h
theorem m_zret : xMono o_zret := fun _ _ _ _ _ _ _ _ h => h
theorem m_lret : xMono o_lret := fun _ _ _ _ _ _ _ _ h => h
theorem m_vret : xMono o_vret := fun _ _ _ _ _ _ _ _ h => h
theorem m_aret : xMono o_aret := fun _ _ _ _ _ _ _ _ h => h
theorem ok_iret (hd : decode M.2.1 pc = .ok (.ireturn, 1)) (ht : M.2.2.2.1 = some .int) : xOK Z M pc o_iret := ⟨m_iret, by
  intro L S AH c Q hop l p e s m args below meth cd D cA st A FQ n0 ad0 ad ls H locs C hh hl hv hc hr
  obtain ⟨hx, hb, hml, hown, hts, hin, hU, hA, hSt, hZ⟩ := id C
  obtain ⟨x, rfl, hop⟩ := hop
  exact hr (some (.int x)) AH ad H locs c pc ls hop (by rw [ht]; trivial) hh (fun y e => by cases e; trivial) hc hd⟩
theorem ok_lret (hd : decode M.2.1 pc = .ok (.lreturn, 1)) (ht : M.2.2.2.1 = some .long) : xOK Z M pc o_lret := ⟨m_lret, by
  intro L S AH c Q hop l p e s m args below meth cd D cA st A FQ n0 ad0 ad ls H locs C hh hl hv hc hr
  obtain ⟨hx, hb, hml, hown, hts, hin, hU, hA, hSt, hZ⟩ := id C
  obtain ⟨x, rfl, hop⟩ := hop
  exact hr (some (.long x)) AH ad H locs c pc ls hop (by rw [ht]; trivial) hh (fun y e => by cases e; trivial) hc hd⟩
theorem ok_zret (hd : decode M.2.1 pc = .ok (.ireturn, 1)) (ht : M.2.2.2.1 = some .boolean) : xOK Z M pc o_zret := ⟨m_zret, by
  intro L S AH c Q hop l p e s m args below meth cd D cA st A FQ n0 ad0 ad ls H locs C hh hl hv hc hr
  obtain ⟨hx, hb, hml, hown, hts, hin, hU, hA, hSt, hZ⟩ := id C
  obtain ⟨x, rfl, h2, hop⟩ := hop
  exact hr (some (.int x)) AH ad H locs c pc ls hop (by rw [ht]; exact h2) hh (fun y e => by cases e; trivial) hc hd⟩
theorem ok_vret (hd : decode M.2.1 pc = .ok (.return_, 1)) (ht : M.2.2.2.1 = none) : xOK Z M pc o_vret := ⟨m_vret, by
  intro L S AH c Q hop l p e s m args below meth cd D cA st A FQ n0 ad0 ad ls H locs C hh hl hv hc hr
  obtain ⟨hx, hb, hml, hown, hts, hin, hU, hA, hSt, hZ⟩ := id C
  obtain ⟨rfl, hop⟩ := hop
  exact hr (none) AH ad H locs c pc ls hop (by rw [ht]; trivial) hh (fun y e => by cases e) hc hd⟩
theorem ok_aret {t : String} (hd : decode M.2.1 pc = .ok (.areturn, 1)) (ht : M.2.2.2.1 = some (.object t)) : xOK Z M pc o_aret := ⟨m_aret, by
  intro L S AH c Q hop l p e s m args below meth cd D cA st A FQ n0 ad0 ad ls H locs C hh hl hv hc hr
  obtain ⟨hx, hb, hml, hown, hts, hin, hU, hA, hSt, hZ⟩ := id C
  obtain ⟨v, rfl, h2, hop⟩ := hop
  have hvv := vhd hv.2
  rcases h2 with ⟨a, rfl⟩ | rfl
  · exact hr (some (.ref a)) AH ad H locs c pc ls hop (by rw [ht]; trivial) hh (fun y e => by cases e; exact hvv) hc hd
  · exact hr (some .null) AH ad H locs c pc ls hop (by rw [ht]; trivial) hh (fun y e => by cases e; trivial) hc hd⟩
end OPS
