/-! operations on cells -/
section HOPS
variable {Z : xZ} {M : xM} {pc n : Nat}
def xcls (AH : xH) (b ci : Nat) : Prop := match AH[b]? with
  | some (.inr o) => o.1 = ci
  | _ => False
theorem xcls.of {AH : xH} {b ci : Nat} (h : xcls AH b ci) : ∃ fs, AH[b]? = some (.inr (ci, fs)) := by
  unfold xcls at h
  split at h
  · rename_i o ho
    subst h
    exact ⟨o.2, ho⟩
  · exact h.elim
def xgf (AH : xH) (a ci kx : Nat) (K : Value → Prop) : Prop := match AH[a]? with
  | some (.inr o) => o.1 = ci ∧ match o.2[kx]? with
    | some v => K v
    | none => False
  | _ => False
theorem xgf.of {AH : xH} {a ci kx : Nat} {K : Value → Prop} (h : xgf AH a ci kx K) : ∃ fs v, AH[a]? = some (.inr (ci, fs)) ∧ fs[kx]? = some v ∧ K v := by
  unfold xgf at h
  split at h
  · rename_i o ho
    obtain ⟨rfl, h⟩ := h
    split at h
    · rename_i v hv
      exact ⟨o.2, v, ho, hv, h⟩
    · exact h.elim
  · exact h.elim
theorem xgf.mono {AH : xH} {a ci kx : Nat} {K K' : Value → Prop} (hk : ∀ v, K v → K' v) (h : xgf AH a ci kx K) : xgf AH a ci kx K' := by
  obtain ⟨fs, v, h1, h2, h3⟩ := h.of
  unfold xgf
  rw [h1]
  refine ⟨rfl, ?_⟩
  show (match fs[kx]? with | some v => K' v | none => False)
  rw [h2]
  exact hk v h3
def o_getf (ci kx n : Nat) : xOp := fun L S AH c k _ => match S with
  | .ref a :: S' => xgf AH a ci kx (fun v => k n L (v :: S') AH c)
  | _ => False
theorem m_getf {ci kx : Nat} : xMono (o_getf ci kx n) := fun L S AH c k k' Q hk h => by
  unfold o_getf at h ⊢
  split at h
  · exact h.mono (fun v hv => hk _ _ _ _ _ hv)
  · exact h.elim
theorem ok_getf {ci kx idx : Nat} {q : vw_C} (hd : decode M.2.1 pc = .ok (.getfield idx, 3)) (hq : vwCl[ci]? = some q) (hk : kx < q.2.2) (hw : Cond.fieldLink M.1.cls idx (q.2.1 kx).1 (q.2.1 kx).2.1 (q.2.1 kx).2.2.1 ∈ wsAll) (hn : pc + 3 = n) : xOK Z M pc (o_getf ci kx n) := ⟨m_getf, by
  subst hn
  intro L S AH c Q hop l p e s m args below meth cd D cA st A FQ n0 ad0 ad ls H locs C hh hl hv hc hr
  obtain ⟨hx, hb, hml, hown, hts, hin, hU, hA, hSt, hZ⟩ := id C
  obtain ⟨hP, hD, hS, hH, hn0, had⟩ := id hh
  unfold o_getf at hop
  split at hop
  · rename_i a S'
    obtain ⟨fs, v, h1, h2, hop⟩ := hop.of
    have hvv : xvV AH.length v := hH a _ h1 v (List.mem_of_getElem? h2)
    exact va_get (D := D) (ci := ci) (C := q.1) (T := q.2.1) (N := q.2.2) (v := xv ad st v) (rest := S'.map (xv ad st)) hx hb hts (cl_in hq) hown hU.1 hP a (xw_get h1) hq kx hk (hts _ hw) (fun _ h9 => h9) (by rw [List.getElem?_map, h2]; rfl) hd (hop l p e s m args below meth cd D cA st A FQ n0 ad0 ad ls H locs C hh hl ⟨hv.1, vcn hvv (vtl hv.2)⟩ hc hr)
  · exact hop.elim⟩
def xfit (ty : FieldType) (v : Value) : Prop := match ty, v with
  | .int, .int _ => True
  | .boolean, .int z => z = 0 ∨ z = 1
  | .long, .long _ => True
  | .object _, .ref _ => True
  | .array _, .ref _ => True
  | _, _ => False
theorem xfit.nf {ad st : Nat → Nat} {ty : FieldType} {v : Value} (h : xfit ty v) : narrow ty (xv ad st v) = xv ad st v ∧ fits ty (xv ad st v) = true := by
  unfold xfit at h
  split at h
  · exact ⟨rfl, rfl⟩
  · rcases h with rfl | rfl <;> exact ⟨rfl, rfl⟩
  · exact ⟨rfl, rfl⟩
  · exact ⟨rfl, rfl⟩
  · exact ⟨rfl, rfl⟩
  · exact h.elim
def xpf (AH : xH) (a ci kx : Nat) (v : Value) (K : xH → Prop) : Prop := match AH[a]? with
  | some (.inr o) => o.1 = ci ∧ kx < o.2.length ∧ K (AH.set a (.inr (ci, o.2.set kx v)))
  | _ => False
theorem xpf.of {AH : xH} {a ci kx : Nat} {v : Value} {K : xH → Prop} (h : xpf AH a ci kx v K) : ∃ fs, AH[a]? = some (.inr (ci, fs)) ∧ kx < fs.length ∧ K (AH.set a (.inr (ci, fs.set kx v))) := by
  unfold xpf at h
  split at h
  · rename_i o ho
    obtain ⟨rfl, h1, h2⟩ := h
    exact ⟨o.2, ho, h1, h2⟩
  · exact h.elim
theorem xpf.mono {AH : xH} {a ci kx : Nat} {v : Value} {K K' : xH → Prop} (hk : ∀ v, K v → K' v) (h : xpf AH a ci kx v K) : xpf AH a ci kx v K' := by
  obtain ⟨fs, h1, h2, h3⟩ := h.of
  unfold xpf
  rw [h1]
  exact ⟨rfl, h2, hk _ h3⟩
def o_putf (ci kx : Nat) (ty : FieldType) (n : Nat) : xOp := fun L S AH c k _ => match S with
  | v :: .ref a :: S' => xfit ty v ∧ xpf AH a ci kx v (fun AH' => k n L S' AH' c)
  | _ => False
theorem m_putf {ci kx : Nat} {ty : FieldType} : xMono (o_putf ci kx ty n) := fun L S AH c k k' Q hk h => by
  unfold o_putf at h ⊢
  split at h
  · exact ⟨h.1, h.2.mono (fun v hv => hk _ _ _ _ _ hv)⟩
  · exact h.elim
theorem xe_set {ad st : Nat → Nat} {cA : Nat → ClassId} {ci kx : Nat} {fs : List Value} {v : Value} : xe ad st cA (.inr (ci, fs.set kx v)) = .inr (ci, (fs.map (xv ad st)).set kx (xv ad st v)) := by
  simp [xe, List.map_set]
theorem xvE_set {N ci kx : Nat} {fs : List Value} {v : Value} (h : xvE N (.inr (ci, fs))) (hv : xvV N v) : xvE N (.inr (ci, fs.set kx v)) := fun w hw => by
  rcases List.mem_or_eq_of_mem_set hw with h1 | h1
  · exact h w h1
  · rw [h1]; exact hv
theorem ok_putf {ci kx idx : Nat} {ty : FieldType} {q : vw_C} (hd : decode M.2.1 pc = .ok (.putfield idx, 3)) (hq : vwCl[ci]? = some q) (hk : kx < q.2.2) (hw : Cond.fieldLink M.1.cls idx (q.2.1 kx).1 (q.2.1 kx).2.1 (q.2.1 kx).2.2.1 ∈ wsAll) (hty : tyT ci kx = ty) (hf : (q.2.1 kx).2.2.2 = false ∨ ((q.2.1 kx).2.2.2 = true ∧ M.1.name = "<init>" ∧ (q.2.1 kx).1 = M.1.cls)) (hn : pc + 3 = n) : xOK Z M pc (o_putf ci kx ty n) := ⟨m_putf, by
  subst hn
  subst hty
  intro L S AH c Q hop l p e s m args below meth cd D cA st A FQ n0 ad0 ad ls H locs C hh hl hv hc hr
  obtain ⟨hx, hb, hml, hown, hts, hin, hU, hA, hSt, hZ⟩ := id C
  obtain ⟨hP, hD, hS, hH, hn0, had⟩ := id hh
  unfold o_putf at hop
  split at hop
  · rename_i v a S'
    obtain ⟨h0, hop⟩ := hop
    obtain ⟨fs, h1, h2, hop⟩ := hop.of
    have hvv := vhd hv.2
    have hnf := h0.nf (ad := ad) (st := st)
    have go : ∀ (H1 : Heap) (locs1 : List Loc), va_P D vwCl ((xw ad st cA AH).set a (ad a, .inr (ci, (fs.map (xv ad st)).set kx (xv ad st v)))) H1 → va_D A ((xw ad st cA AH).set a (ad a, .inr (ci, (fs.map (xv ad st)).set kx (xv ad st v)))) → va_S A s.heap H1 locs1 → W p l e M.2.2.2.2 s m args below meth cd H1 locs1 c.1 c.2 FQ (F0 m (pc + 3) ls (S'.map (xv ad st))) := fun H1 locs1 gP gD gS =>
      hop l p e s m args below meth cd D cA st A FQ n0 ad0 ad ls H1 locs1 C ⟨by rw [xw_set, xe_set]; exact gP, by rw [xw_set, xe_set]; exact gD, gS, hH.set (xvE_set (hH a _ h1) hvv), by rw [List.length_set]; exact hn0, had⟩ hl ⟨by rw [List.length_set]; exact hv.1, by rw [List.length_set]; exact vtl (vtl hv.2)⟩ hc hr
    rcases hf with hf | ⟨hf, hf1, hf2⟩
    · exact va_put (D := D) (ci := ci) (C := q.1) (T := q.2.1) (N := q.2.2) (v := xv ad st v) (rest := S'.map (xv ad st)) hx hb hts (cl_in hq) (tyT ci) (cl_ty hq) (cl_nm hq) hown hU.1 hP hD hS a (xw_get h1) hq kx hk (hts _ hw) (fun _ h9 => h9) hf (cl_ty hq kx hk) hnf.1 hnf.2 (by rw [List.length_map]; exact h2) hd go
    · exact va_putF (D := D) (ci := ci) (C := q.1) (T := q.2.1) (N := q.2.2) (v := xv ad st v) (rest := S'.map (xv ad st)) hx hb hts (cl_in hq) (tyT ci) (cl_ty hq) (cl_nm hq) hown hU.1 hP hD hS a (xw_get h1) hq kx hk (hts _ hw) (fun _ h9 => h9) hf (hin hf1) hf2 (cl_ty hq kx hk) hnf.1 hnf.2 (by rw [List.length_map]; exact h2) hd go
  · exact hop.elim⟩
def o_gets (j : UInt32) (n : Nat) : xOp := fun L S AH c k _ => k n L (.float j :: S) AH c
theorem m_gets {j : UInt32} : xMono (o_gets j n) := fun _ _ _ _ _ _ _ hk h => hk _ _ _ _ _ h
theorem ok_gets {j : UInt32} {idx : Nat} {q : String × String × List Int32} (hd : decode M.2.1 pc = .ok (.getstatic idx, 3)) (hq : sT[j.toNat]? = some q) (hw : Cond.fieldLink M.1.cls idx q.1 q.2.1 "[I" ∈ wsAll) (hn : pc + 3 = n) : xOK Z M pc (o_gets j n) := ⟨m_gets, by
  subst hn
  intro L S AH c Q hop l p e s m args below meth cd D cA st A FQ n0 ad0 ad ls H locs C hh hl hv hc hr
  obtain ⟨hx, hb, hml, hown, hts, hin, hU, hA, hSt, hZ⟩ := id C
  obtain ⟨hP, hD, hS, hH, hn0, had⟩ := id hh
  exact va_gets (v := .ref (st j.toNat)) (rest := S.map (xv ad st)) hx hb (hSt _ _ hq).1 hS hown (hts _ hw) (fun _ h9 => h9) hd (hop l p e s m args below meth cd D cA st A FQ n0 ad0 ad ls H locs C hh hl ⟨hv.1, vcn trivial hv.2⟩ hc hr)⟩
/-! arrays -/
def xald (AH : xH) (a : Nat) (i : Int32) (K : Int32 → Prop) : Prop := match AH[a]? with
  | some (.inl (n, .inl f)) => vp_in i n ∧ K (f i.toNatClampNeg)
  | _ => False
theorem xald.of {AH : xH} {a : Nat} {i : Int32} {K : Int32 → Prop} (h : xald AH a i K) : ∃ n f, AH[a]? = some (.inl (n, .inl f)) ∧ vp_in i n ∧ K (f i.toNatClampNeg) := by
  unfold xald at h
  split at h
  · rename_i n f ho
    exact ⟨n, f, ho, h⟩
  · exact h.elim
def xsld (j : UInt32) (i : Int32) (K : Int32 → Prop) : Prop := match sT[j.toNat]? with
  | some q => vp_in i q.2.2.length ∧ K (q.2.2.getD i.toNatClampNeg 0)
  | none => False
def o_iald (n : Nat) : xOp := fun L S AH c k _ => match S with
  | .int i :: .ref a :: S' => xald AH a i (fun x => k n L (.int x :: S') AH c)
  | .int i :: .float j :: S' => xsld j i (fun x => k n L (.int x :: S') AH c)
  | _ => False
theorem m_iald : xMono (o_iald n) := fun L S AH c k k' Q hk h => by
  unfold o_iald at h ⊢
  split at h
  · obtain ⟨N, f, h1, h2, h3⟩ := h.of
    unfold xald
    rw [h1]
    exact ⟨h2, hk _ _ _ _ _ h3⟩
  · unfold xsld at h ⊢
    split at h
    · rename_i h1
      simp only [h1]
      exact ⟨h.1, hk _ _ _ _ _ h.2⟩
    · exact h.elim
  · exact h.elim
theorem ok_iald (hd : decode M.2.1 pc = .ok (.iaload, 1)) (hn : pc + 1 = n) : xOK Z M pc (o_iald n) := ⟨m_iald, by
  subst hn
  intro L S AH c Q hop l p e s m args below meth cd D cA st A FQ n0 ad0 ad ls H locs C hh hl hv hc hr
  obtain ⟨hx, hb, hml, hown, hts, hin, hU, hA, hSt, hZ⟩ := id C
  obtain ⟨hP, hD, hS, hH, hn0, had⟩ := id hh
  unfold o_iald at hop
  split at hop
  · rename_i i a S'
    obtain ⟨N, f, h1, h2, hop⟩ := hop.of
    exact va_iald (D := D) (rest := S'.map (xv ad st)) hx hb hU.1 hP a 0 (xw_get h1) rfl h2 hd (hop l p e s m args below meth cd D cA st A FQ n0 ad0 ad ls H locs C hh hl ⟨hv.1, vcn trivial (vtl (vtl hv.2))⟩ hc hr)
  · rename_i i j S'
    unfold xsld at hop
    split at hop
    · rename_i q h1
      exact va_ti (rest := S'.map (xv ad st)) hx hb (hSt _ _ h1).2 hS hop.1 rfl hd (hop.2 l p e s m args below meth cd D cA st A FQ n0 ad0 ad ls H locs C hh hl ⟨hv.1, vcn trivial (vtl (vtl hv.2))⟩ hc hr)
    · exact hop.elim
  · exact hop.elim⟩
def xast (AH : xH) (a : Nat) (i x : Int32) (K : xH → Prop) : Prop := match AH[a]? with
  | some (.inl (n, .inl f)) => vp_in i n ∧ K (AH.set a (.inl (n, .inl (upd f i.toNatClampNeg x))))
  | _ => False
theorem xast.of {AH : xH} {a : Nat} {i x : Int32} {K : xH → Prop} (h : xast AH a i x K) : ∃ n f, AH[a]? = some (.inl (n, .inl f)) ∧ vp_in i n ∧ K (AH.set a (.inl (n, .inl (upd f i.toNatClampNeg x)))) := by
  unfold xast at h
  split at h
  · rename_i n f ho
    exact ⟨n, f, ho, h⟩
  · exact h.elim
def o_iast (n : Nat) : xOp := fun L S AH c k _ => match S with
  | .int x :: .int i :: .ref a :: S' => xast AH a i x (fun AH' => k n L S' AH' c)
  | _ => False
theorem m_iast : xMono (o_iast n) := fun L S AH c k k' Q hk h => by
  unfold o_iast at h ⊢
  split at h
  · obtain ⟨N, f, h1, h2, h3⟩ := h.of
    unfold xast
    rw [h1]
    exact ⟨h2, hk _ _ _ _ _ h3⟩
  · exact h.elim
theorem ok_iast (hd : decode M.2.1 pc = .ok (.iastore, 1)) (hn : pc + 1 = n) : xOK Z M pc (o_iast n) := ⟨m_iast, by
  subst hn
  intro L S AH c Q hop l p e s m args below meth cd D cA st A FQ n0 ad0 ad ls H locs C hh hl hv hc hr
  obtain ⟨hx, hb, hml, hown, hts, hin, hU, hA, hSt, hZ⟩ := id C
  obtain ⟨hP, hD, hS, hH, hn0, had⟩ := id hh
  unfold o_iast at hop
  split at hop
  · rename_i x i a S'
    obtain ⟨N, f, h1, h2, hop⟩ := hop.of
    exact va_iast (D := D) (x := x) (rest := S'.map (xv ad st)) hx hb hU.1 hP hD hS a 0 (xw_get h1) rfl h2 hd (fun H1 locs1 gP gD gS => hop l p e s m args below meth cd D cA st A FQ n0 ad0 ad ls H1 locs1 C ⟨by rw [xw_set]; exact gP, by rw [xw_set]; exact gD, gS, hH.set trivial, by rw [List.length_set]; exact hn0, had⟩ hl ⟨by rw [List.length_set]; exact hv.1, by rw [List.length_set]; exact vtl (vtl (vtl hv.2))⟩ hc hr)
  · exact hop.elim⟩
def xlald (AH : xH) (a : Nat) (i : Int32) (K : Int64 → Prop) : Prop := match AH[a]? with
  | some (.inl (n, .inr (.inl f))) => vp_in i n ∧ K (f i.toNatClampNeg)
  | _ => False
theorem xlald.of {AH : xH} {a : Nat} {i : Int32} {K : Int64 → Prop} (h : xlald AH a i K) : ∃ n f, AH[a]? = some (.inl (n, .inr (.inl f))) ∧ vp_in i n ∧ K (f i.toNatClampNeg) := by
  unfold xlald at h
  split at h
  · rename_i n f ho
    exact ⟨n, f, ho, h⟩
  · exact h.elim
def o_lald (n : Nat) : xOp := fun L S AH c k _ => match S with
  | .int i :: .ref a :: S' => xlald AH a i (fun x => k n L (.long x :: S') AH c)
  | _ => False
theorem m_lald : xMono (o_lald n) := fun L S AH c k k' Q hk h => by
  unfold o_lald at h ⊢
  split at h
  · obtain ⟨N, f, h1, h2, h3⟩ := h.of
    unfold xlald
    rw [h1]
    exact ⟨h2, hk _ _ _ _ _ h3⟩
  · exact h.elim
theorem ok_lald (hd : decode M.2.1 pc = .ok (.laload, 1)) (hn : pc + 1 = n) : xOK Z M pc (o_lald n) := ⟨m_lald, by
  subst hn
  intro L S AH c Q hop l p e s m args below meth cd D cA st A FQ n0 ad0 ad ls H locs C hh hl hv hc hr
  obtain ⟨hx, hb, hml, hown, hts, hin, hU, hA, hSt, hZ⟩ := id C
  obtain ⟨hP, hD, hS, hH, hn0, had⟩ := id hh
  unfold o_lald at hop
  split at hop
  · rename_i i a S'
    obtain ⟨N, f, h1, h2, hop⟩ := hop.of
    exact va_lald (D := D) (rest := S'.map (xv ad st)) hx hb hU.1 hP a 1 (xw_get h1) rfl h2 hd (hop l p e s m args below meth cd D cA st A FQ n0 ad0 ad ls H locs C hh hl ⟨hv.1, vcn trivial (vtl (vtl hv.2))⟩ hc hr)
  · exact hop.elim⟩
def xlast (AH : xH) (a : Nat) (i : Int32) (x : Int64) (K : xH → Prop) : Prop := match AH[a]? with
  | some (.inl (n, .inr (.inl f))) => vp_in i n ∧ K (AH.set a (.inl (n, .inr (.inl (vp_updL f i.toNatClampNeg x)))))
  | _ => False
theorem xlast.of {AH : xH} {a : Nat} {i : Int32} {x : Int64} {K : xH → Prop} (h : xlast AH a i x K) : ∃ n f, AH[a]? = some (.inl (n, .inr (.inl f))) ∧ vp_in i n ∧ K (AH.set a (.inl (n, .inr (.inl (vp_updL f i.toNatClampNeg x))))) := by
  unfold xlast at h
  split at h
  · rename_i n f ho
    exact ⟨n, f, ho, h⟩
  · exact h.elim
def o_last (n : Nat) : xOp := fun L S AH c k _ => match S with
  | .long x :: .int i :: .ref a :: S' => xlast AH a i x (fun AH' => k n L S' AH' c)
  | _ => False
theorem m_last : xMono (o_last n) := fun L S AH c k k' Q hk h => by
  unfold o_last at h ⊢
  split at h
  · obtain ⟨N, f, h1, h2, h3⟩ := h.of
    unfold xlast
    rw [h1]
    exact ⟨h2, hk _ _ _ _ _ h3⟩
  · exact h.elim
theorem ok_last (hd : decode M.2.1 pc = .ok (.lastore, 1)) (hn : pc + 1 = n) : xOK Z M pc (o_last n) := ⟨m_last, by
  subst hn
  intro L S AH c Q hop l p e s m args below meth cd D cA st A FQ n0 ad0 ad ls H locs C hh hl hv hc hr
  obtain ⟨hx, hb, hml, hown, hts, hin, hU, hA, hSt, hZ⟩ := id C
  obtain ⟨hP, hD, hS, hH, hn0, had⟩ := id hh
  unfold o_last at hop
  split at hop
  · rename_i x i a S'
    obtain ⟨N, f, h1, h2, hop⟩ := hop.of
    exact va_last (D := D) (x := x) (rest := S'.map (xv ad st)) hx hb hU.1 hP hD hS a 1 (xw_get h1) rfl h2 hd (fun H1 locs1 gP gD gS => hop l p e s m args below meth cd D cA st A FQ n0 ad0 ad ls H1 locs1 C ⟨by rw [xw_set]; exact gP, by rw [xw_set]; exact gD, gS, hH.set trivial, by rw [List.length_set]; exact hn0, had⟩ hl ⟨by rw [List.length_set]; exact hv.1, by rw [List.length_set]; exact vtl (vtl (vtl hv.2))⟩ hc hr)
  · exact hop.elim⟩
def xof : Option Nat → Value
  | none => .null
  | some a => .ref a
theorem xof_v {ad st : Nat → Nat} (r : Option Nat) : va_rf (r.map ad) = xv ad st (xof r) := by cases r <;> rfl
def xaald (AH : xH) (a : Nat) (i : Int32) (K : Value → Prop) : Prop := match AH[a]? with
  | some (.inl (n, .inr (.inr (.inr (.inr f))))) => vp_in i n ∧ K (xof (f i.toNatClampNeg))
  | _ => False
theorem xaald.of {AH : xH} {a : Nat} {i : Int32} {K : Value → Prop} (h : xaald AH a i K) : ∃ n f, AH[a]? = some (.inl (n, .inr (.inr (.inr (.inr f))))) ∧ vp_in i n ∧ K (xof (f i.toNatClampNeg)) := by
  unfold xaald at h
  split at h
  · rename_i n f ho
    exact ⟨n, f, ho, h⟩
  · exact h.elim
def o_aald (n : Nat) : xOp := fun L S AH c k _ => match S with
  | .int i :: .ref a :: S' => xaald AH a i (fun x => k n L (x :: S') AH c)
  | _ => False
theorem m_aald : xMono (o_aald n) := fun L S AH c k k' Q hk h => by
  unfold o_aald at h ⊢
  split at h
  · obtain ⟨N, f, h1, h2, h3⟩ := h.of
    unfold xaald
    rw [h1]
    exact ⟨h2, hk _ _ _ _ _ h3⟩
  · exact h.elim
theorem ok_aald (hd : decode M.2.1 pc = .ok (.aaload, 1)) (hn : pc + 1 = n) : xOK Z M pc (o_aald n) := ⟨m_aald, by
  subst hn
  intro L S AH c Q hop l p e s m args below meth cd D cA st A FQ n0 ad0 ad ls H locs C hh hl hv hc hr
  obtain ⟨hx, hb, hml, hown, hts, hin, hU, hA, hSt, hZ⟩ := id C
  obtain ⟨hP, hD, hS, hH, hn0, had⟩ := id hh
  unfold o_aald at hop
  split at hop
  · rename_i i a S'
    obtain ⟨N, f, h1, h2, hop⟩ := hop.of
    have hvv : xvV AH.length (xof (f i.toNatClampNeg)) := by
      have := hH a _ h1
      cases hf : f i.toNatClampNeg with
      | none => trivial
      | some b => exact this _ _ hf
    have hop := hop l p e s m args below meth cd D cA st A FQ n0 ad0 ad ls H locs C hh hl ⟨hv.1, vcn hvv (vtl (vtl hv.2))⟩ hc hr
    rw [List.map_cons, ← xof_v] at hop
    exact va_aldq (D := D) (C := "GrainGrower$Tape") (rest := S'.map (xv ad st)) hx hb hU.1 hP a 2 (xw_get h1) rfl h2 hd hop
  · exact hop.elim⟩
def xaast (AH : xH) (a : Nat) (i : Int32) (b : Nat) (K : xH → Prop) : Prop := match AH[a]? with
  | some (.inl (n, .inr (.inr (.inr (.inr f))))) => vp_in i n ∧ K (AH.set a (.inl (n, .inr (.inr (.inr (.inr (va_up f i.toNatClampNeg (some b))))))))
  | _ => False
theorem xaast.of {AH : xH} {a : Nat} {i : Int32} {b : Nat} {K : xH → Prop} (h : xaast AH a i b K) : ∃ n f, AH[a]? = some (.inl (n, .inr (.inr (.inr (.inr f))))) ∧ vp_in i n ∧ K (AH.set a (.inl (n, .inr (.inr (.inr (.inr (va_up f i.toNatClampNeg (some b)))))))) := by
  unfold xaast at h
  split at h
  · rename_i n f ho
    exact ⟨n, f, ho, h⟩
  · exact h.elim
def o_aast (n : Nat) : xOp := fun L S AH c k _ => match S with
  | .ref b :: .int i :: .ref a :: S' => xcls AH b 4 ∧ xaast AH a i b (fun AH' => k n L S' AH' c)
  | _ => False
theorem m_aast : xMono (o_aast n) := fun L S AH c k k' Q hk h => by
  unfold o_aast at h ⊢
  split at h
  · obtain ⟨N, f, h1, h2, h3⟩ := h.2.of
    refine ⟨h.1, ?_⟩
    unfold xaast
    rw [h1]
    exact ⟨h2, hk _ _ _ _ _ h3⟩
  · exact h.elim
theorem xe_aup {ad st : Nat → Nat} {cA : Nat → ClassId} {N i b : Nat} {f : Nat → Option Nat} : xe ad st cA (.inl (N, .inr (.inr (.inr (.inr (va_up f i (some b))))))) = .inl (cA 2, N, .inr (.inr (.inr (.inr (va_up (fun j => (f j).map ad) i (some (ad b))))))) := by
  have : (fun j => (va_up f i (some b) j).map ad) = va_up (fun j => (f j).map ad) i (some (ad b)) := by
    funext j
    unfold va_up
    split <;> rfl
  simp [xe, xar, xk, this]
theorem ok_aast (hd : decode M.2.1 pc = .ok (.aastore, 1)) (hn : pc + 1 = n) : xOK Z M pc (o_aast n) := ⟨m_aast, by
  subst hn
  intro L S AH c Q hop l p e s m args below meth cd D cA st A FQ n0 ad0 ad ls H locs C hh hl hv hc hr
  obtain ⟨hx, hb, hml, hown, hts, hin, hU, hA, hSt, hZ⟩ := id C
  obtain ⟨hP, hD, hS, hH, hn0, had⟩ := id hh
  unfold o_aast at hop
  split at hop
  · rename_i b i a S'
    obtain ⟨h0, hop⟩ := hop
    obtain ⟨fs, h0⟩ := h0.of
    obtain ⟨N, f, h1, h2, hop⟩ := hop.of
    have hbv : b < AH.length := vhd hv.2
    have hE : xvE AH.length (.inl (N, .inr (.inr (.inr (.inr (va_up f i.toNatClampNeg (some b))))))) := fun j x hj => by
      unfold va_up at hj
      split at hj
      · cases hj; exact hbv
      · exact hH a _ h1 j x hj
    exact va_astq (D := D) (r := (RX4, TX4, 3)) (rest := S'.map (xv ad st)) hx hb hU.1 hP hD hS a 2 b 4 (xw_get h1) rfl (xw_get h0) rfl h2 hd (fun H1 locs1 gP gD gS => hop l p e s m args below meth cd D cA st A FQ n0 ad0 ad ls H1 locs1 C ⟨by rw [xw_set, xe_aup]; exact gP, by rw [xw_set, xe_aup]; exact gD, gS, hH.set hE, by rw [List.length_set]; exact hn0, had⟩ hl ⟨by rw [List.length_set]; exact hv.1, by rw [List.length_set]; exact vtl (vtl (vtl hv.2))⟩ hc hr)
  · exact hop.elim⟩
def xalen (AH : xH) (a : Nat) (K : Int32 → Prop) : Prop := match AH[a]? with
  | some (.inl x) => K (Int32.ofNat x.1)
  | _ => False
theorem xalen.of {AH : xH} {a : Nat} {K : Int32 → Prop} (h : xalen AH a K) : ∃ x, AH[a]? = some (.inl x) ∧ K (Int32.ofNat x.1) := by
  unfold xalen at h
  split at h
  · rename_i x ho
    exact ⟨x, ho, h⟩
  · exact h.elim
def o_alen (n : Nat) : xOp := fun L S AH c k _ => match S with
  | .ref a :: S' => xalen AH a (fun x => k n L (.int x :: S') AH c)
  | _ => False
theorem m_alen : xMono (o_alen n) := fun L S AH c k k' Q hk h => by
  unfold o_alen at h ⊢
  split at h
  · obtain ⟨x, h1, h3⟩ := h.of
    unfold xalen
    rw [h1]
    exact hk _ _ _ _ _ h3
  · exact h.elim
theorem xar_len {ad : Nat → Nat} (x : vp_A) : (xar ad x).1 = x.1 := by
  obtain ⟨N, f | f | f | f | f⟩ := x <;> rfl
theorem xk_ty {cA : Nat → ClassId} (x : vp_A) : ∃ ty, (xTys cA)[xk x]? = some (cA (xk x), ty) := by
  obtain ⟨N, f | f | f | f | f⟩ := x <;> exact ⟨_, rfl⟩
theorem ok_alen (hd : decode M.2.1 pc = .ok (.arraylength, 1)) (hn : pc + 1 = n) : xOK Z M pc (o_alen n) := ⟨m_alen, by
  subst hn
  intro L S AH c Q hop l p e s m args below meth cd D cA st A FQ n0 ad0 ad ls H locs C hh hl hv hc hr
  obtain ⟨hx, hb, hml, hown, hts, hin, hU, hA, hSt, hZ⟩ := id C
  obtain ⟨hP, hD, hS, hH, hn0, had⟩ := id hh
  unfold o_alen at hop
  split at hop
  · rename_i a S'
    obtain ⟨x, h1, hop⟩ := hop.of
    obtain ⟨ty, hty⟩ := xk_ty (cA := cA) x
    exact va_alen (D := D) (rest := S'.map (xv ad st)) hx hb hU.1 hP a (xk x) (xw_get h1) hty (by rw [xar_len]) hd (hop l p e s m args below meth cd D cA st A FQ n0 ad0 ad ls H locs C hh hl ⟨hv.1, vcn trivial (vtl hv.2)⟩ hc hr)
  · exact hop.elim⟩
/-! the script of the law -/
def o_sld (q : Nat × (Nat → Int32)) (n : Nat) : xOp := fun L S AH c k _ => match S with
  | .int i :: .float j :: S' => j = 5 ∧ vp_in i q.1 ∧ k n L (.int (q.2 i.toNatClampNeg) :: S') AH c
  | _ => False
theorem m_sld {q : Nat × (Nat → Int32)} : xMono (o_sld q n) := fun L S AH c k k' Q hk h => by
  unfold o_sld at h ⊢
  split at h
  · exact ⟨h.1, h.2.1, hk _ _ _ _ _ h.2.2⟩
  · exact h.elim
theorem ok_sld {q : Nat × (Nat → Int32)} (hd : decode M.2.1 pc = .ok (.iaload, 1)) (hz : Z = some q) (hn : pc + 1 = n) : xOK Z M pc (o_sld q n) := ⟨m_sld, by
  subst hn
  intro L S AH c Q hop l p e s m args below meth cd D cA st A FQ n0 ad0 ad ls H locs C hh hl hv hc hr
  obtain ⟨hx, hb, hml, hown, hts, hin, hU, hA, hSt, hZ⟩ := id C
  obtain ⟨hP, hD, hS, hH, hn0, had⟩ := id hh
  unfold o_sld at hop
  split at hop
  · rename_i i j S'
    obtain ⟨rfl, h2, hop⟩ := hop
    obtain ⟨z1, z2, z3⟩ := hZ q hz
    exact va_sld (rest := S'.map (xv ad st)) hx hb z1 z2 z3 hS h2 hd (hop l p e s m args below meth cd D cA st A FQ n0 ad0 ad ls H locs C hh hl ⟨hv.1, vcn trivial (vtl (vtl hv.2))⟩ hc hr)
  · exact hop.elim⟩
def o_slen (q : Nat × (Nat → Int32)) (n : Nat) : xOp := fun L S AH c k _ => match S with
  | .float j :: S' => j = 5 ∧ k n L (.int (Int32.ofNat q.1) :: S') AH c
  | _ => False
theorem m_slen {q : Nat × (Nat → Int32)} : xMono (o_slen q n) := fun L S AH c k k' Q hk h => by
  unfold o_slen at h ⊢
  split at h
  · exact ⟨h.1, hk _ _ _ _ _ h.2⟩
  · exact h.elim
theorem ok_slen {q : Nat × (Nat → Int32)} (hd : decode M.2.1 pc = .ok (.arraylength, 1)) (hz : Z = some q) (hn : pc + 1 = n) : xOK Z M pc (o_slen q n) := ⟨m_slen, by
  subst hn
  intro L S AH c Q hop l p e s m args below meth cd D cA st A FQ n0 ad0 ad ls H locs C hh hl hv hc hr
  obtain ⟨hx, hb, hml, hown, hts, hin, hU, hA, hSt, hZ⟩ := id C
  obtain ⟨hP, hD, hS, hH, hn0, had⟩ := id hh
  unfold o_slen at hop
  split at hop
  · rename_i j S'
    obtain ⟨rfl, hop⟩ := hop
    obtain ⟨z1, z2, z3⟩ := hZ q hz
    exact va_slen (rest := S'.map (xv ad st)) hx hb z1 z2 z3 hS hd (hop l p e s m args below meth cd D cA st A FQ n0 ad0 ad ls H locs C hh hl ⟨hv.1, vcn trivial (vtl hv.2)⟩ hc hr)
  · exact hop.elim⟩
end HOPS
