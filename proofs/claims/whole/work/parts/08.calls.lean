/-! making cells, calls -/
def xwt (S : List Value) : Nat := (S.map fun v => v.category).sum
theorem xwt_v {ad st : Nat → Nat} (S : List Value) : ((S.map (xv ad st)).map fun v => v.category).sum = xwt S := by
  unfold xwt
  rw [List.map_map]
  congr 1
  exact List.map_congr_left fun v _ => xv_cat ad st v
theorem xLs.ad {ad ad' st : Nat → Nat} {nL N : Nat} {ls : Array Slot} {L : xL} (h : xLs ad st nL ls L) (ha : ∀ i, i < N → ad' i = ad i) (hv : ∀ v, some v ∈ L → xvV N v) : xLs ad' st nL ls L := ⟨h.1, h.2.1, fun i v hi => by
  rw [xv_eq ha (hv v (List.mem_of_getElem? hi))]
  exact h.2.2 i v hi⟩
theorem va_up_lt {ad : Nat → Nat} {N q i : Nat} (h : i < N) : va_up ad N q i = ad i := by
  unfold va_up
  rw [if_neg (by omega)]
theorem va_up_at {ad : Nat → Nat} {N q : Nat} : va_up ad N q N = q := by
  unfold va_up
  rw [if_pos rfl]
section MAKE
variable {Z : xZ} {M : xM} {pc n : Nat}
/-- one more cell -/
theorem x_grow {D : va_G} {cA : Nat → ClassId} {st ad : Nat → Nat} {A : Nat → Prop} {s : State} {n0 : Nat} {ad0 : Nat → Nat} {AH : xH} {H1 : Heap} {locs : List Loc} {q : Nat} {x : xE} (hH : xvH AH) (hx : xvE (AH.length + 1) x) (hn0 : n0 ≤ AH.length) (had : ∀ i, i < n0 → ad i = ad0 i) (gP : va_P D vwCl (xw ad st cA AH ++ [(q, xe (va_up ad AH.length q) st cA x)]) H1) (gD : va_D A (xw ad st cA AH ++ [(q, xe (va_up ad AH.length q) st cA x)])) (gS : va_S A s.heap H1 locs) : xHp D cA st (va_up ad AH.length q) A s n0 ad0 (AH ++ [x]) H1 locs := by
  have e : xw (va_up ad AH.length q) st cA (AH ++ [x]) = xw ad st cA AH ++ [(q, xe (va_up ad AH.length q) st cA x)] := by
    rw [xw_app, va_up_at, xw_eq (fun i hi => va_up_lt hi) hH]
  refine ⟨by rw [e]; exact gP, by rw [e]; exact gD, gS, hH.app hx, by rw [List.length_append]; omega, fun i hi => ?_⟩
  rw [va_up_lt (by omega)]
  exact had i hi
def o_new (ci : Nat) (fs : List Value) (nf bc bs n : Nat) : xOp := fun L S AH c k _ => c.1 + 1 ≤ bc ∧ c.2 + nf ≤ bs ∧ k n L (.ref AH.length :: S) (AH ++ [.inr (ci, fs)]) (c.1 + 1, c.2 + nf)
theorem m_new {ci nf bc bs : Nat} {fs : List Value} : xMono (o_new ci fs nf bc bs n) := fun _ _ _ _ _ _ _ hk h => ⟨h.1, h.2.1, hk _ _ _ _ _ h.2.2⟩
theorem ok_new {ci nf bc bs idx : Nat} {fs : List Value} {q : vw_C} (hd : decode M.2.1 pc = .ok (.new idx, 3)) (hq : vwCl[ci]? = some q) (hN : q.2.2 = nf) (hbc : M.2.2.2.2.cells = bc) (hbs : M.2.2.2.2.slots = bs) (w1 : Cond.classLink M.1.cls idx q.1 ∈ wsAll) (w2 : Cond.instantiable q.1 q.2.2 ∈ wsAll) (w3 : Cond.initialized q.1 ∈ wsAll) (hfs : ∀ j, j < q.2.2 → defaultValue (tyT ci j) = vp_V fs j) (hf0 : ∀ ad st, fs.map (xv ad st) = fs) (hfv : ∀ v ∈ fs, xvV 0 v) (hn : pc + 3 = n) : xOK Z M pc (o_new ci fs nf bc bs n) := ⟨m_new, by
  subst hn
  subst hN
  subst hbc
  subst hbs
  intro L S AH c Q hop l p e s m args below meth cd D cA st A FQ n0 ad0 ad ls H locs C hh hl hv hc hr
  obtain ⟨hx, hb, hml, hown, hts, hin, hU, hA, hSt, hZ⟩ := id C
  obtain ⟨hP, hD, hS, hH, hn0, had⟩ := id hh
  obtain ⟨g1, g2, hop⟩ := hop
  refine va_new (D := D) (ci := ci) (C := q.1) (T := q.2.1) (N := q.2.2) (fs := fs) (rest := S.map (xv ad st)) hx hb hts (cl_in hq) (tyT ci) (cl_ty hq) hown (hts _ w1) (hts _ w2) (hts _ w3) hU.1 hP hD hS hA hq hfs g1 g2 hd (fun q1 H1 gP gD gS => ?_)
  have ex : xe (va_up ad AH.length q1) st cA (.inr (ci, fs)) = .inr (ci, fs) := by simp only [xe, hf0]
  have hop := hop l p e s m args below meth cd D cA st A FQ n0 ad0 (va_up ad AH.length q1) ls H1 locs C (x_grow hH (fun v hv => (hfv v hv).mono (Nat.zero_le _)) hn0 had (by rw [ex]; exact gP) (by rw [ex]; exact gD) gS) (hl.ad (fun i hi => va_up_lt hi) hv.1) ⟨fun v hm => (hv.1 v hm).mono (by rw [List.length_append]; omega), vcn (show AH.length < (AH ++ [_]).length by rw [List.length_append]; exact Nat.lt_succ_self _) (fun v hm => (hv.2 v hm).mono (by rw [List.length_append]; omega))⟩ ⟨g1, g2⟩ hr
  rw [List.map_cons, xvs_eq (fun i hi => va_up_lt hi) hv.2, show xv (va_up ad AH.length q1) st (.ref AH.length) = .ref q1 from by simp only [xv, va_up_at]] at hop
  exact hop⟩
def o_newi (bc bs n : Nat) : xOp := fun L S AH c k _ => match S with
  | .int z :: S' => ¬ z < 0 ∧ z.toNatClampNeg ≤ 100000 ∧ c.1 + 1 ≤ bc ∧ c.2 + z.toNatClampNeg ≤ bs ∧ k n L (.ref AH.length :: S') (AH ++ [.inl (z.toNatClampNeg, .inl (fun _ => 0))]) (c.1 + 1, c.2 + z.toNatClampNeg)
  | _ => False
def o_newl (bc bs n : Nat) : xOp := fun L S AH c k _ => match S with
  | .int z :: S' => ¬ z < 0 ∧ z.toNatClampNeg ≤ 100000 ∧ c.1 + 1 ≤ bc ∧ c.2 + z.toNatClampNeg ≤ bs ∧ k n L (.ref AH.length :: S') (AH ++ [.inl (z.toNatClampNeg, .inr (.inl (fun _ => 0)))]) (c.1 + 1, c.2 + z.toNatClampNeg)
  | _ => False
def o_newq (bc bs n : Nat) : xOp := fun L S AH c k _ => match S with
  | .int z :: S' => ¬ z < 0 ∧ z.toNatClampNeg ≤ 100000 ∧ c.1 + 1 ≤ bc ∧ c.2 + z.toNatClampNeg ≤ bs ∧ k n L (.ref AH.length :: S') (AH ++ [.inl (z.toNatClampNeg, .inr (.inr (.inr (.inr (fun _ => none)))))]) (c.1 + 1, c.2 + z.toNatClampNeg)
  | _ => False
theorem m_newi {bc bs : Nat} : xMono (o_newi bc bs n) := fun L S AH c k k' Q hk h => by
  unfold o_newi at h ⊢
  split at h
  · exact ⟨h.1, h.2.1, h.2.2.1, h.2.2.2.1, hk _ _ _ _ _ h.2.2.2.2⟩
  · exact h.elim
theorem ok_newi {bc bs : Nat} (hd : decode M.2.1 pc = .ok (.newarray .int, 2)) (hbc : M.2.2.2.2.cells = bc) (hbs : M.2.2.2.2.slots = bs) (w1 : Cond.arrayClass .int ∈ wsAll) (hn : pc + 2 = n) : xOK Z M pc (o_newi bc bs n) := ⟨m_newi, by
  subst hn
  subst hbc
  subst hbs
  intro L S AH c Q hop l p e s m args below meth cd D cA st A FQ n0 ad0 ad ls H locs C hh hl hv hc hr
  obtain ⟨hx, hb, hml, hown, hts, hin, hU, hA, hSt, hZ⟩ := id C
  obtain ⟨hP, hD, hS, hH, hn0, had⟩ := id hh
  unfold o_newi at hop
  split at hop
  · rename_i z S'
    obtain ⟨g0, gb, g1, g2, hop⟩ := hop
    refine va_newa (atype := .int) (ty := .int) (a0 := (z.toNatClampNeg, .inl (fun _ => 0))) (D := D) (rest := S'.map (xv ad st)) hx hb (hts _ w1) rfl hU.1 hP hD hS hA (fun _ => rfl) g0 rfl (show z.toNatClampNeg * 4 ≤ 536870912 by omega) g1 g2 hd (fun q1 cA1 H1 gK gP gD gS => ?_)
    have ec : cA1 = cA 0 := by
      have e1 : s.vm.findClass _ = some cA1 := (gK.2 3 (cA1, .int) rfl).2
      have e2 : s.vm.findClass _ = some (cA 0) := (hU.1.2 0 (cA 0, .int) rfl).2
      exact Option.some.inj (e1.symm.trans e2)
    subst ec
    have hop := hop l p e s m args below meth cd D cA st A FQ n0 ad0 (va_up ad AH.length q1) ls H1 locs C (x_grow hH (by trivial) hn0 had gP gD gS) (hl.ad (fun i hi => va_up_lt hi) hv.1) ⟨fun v hm => (hv.1 v hm).mono (by rw [List.length_append]; omega), vcn (show AH.length < (AH ++ [_]).length by rw [List.length_append]; exact Nat.lt_succ_self _) (fun v hm => ((vtl hv.2) v hm).mono (by rw [List.length_append]; omega))⟩ ⟨g1, g2⟩ hr
    rw [List.map_cons, xvs_eq (fun i hi => va_up_lt hi) (vtl hv.2), show xv (va_up ad AH.length q1) st (.ref AH.length) = .ref q1 from by simp only [xv, va_up_at]] at hop
    exact hop
  · exact hop.elim⟩
theorem m_newl {bc bs : Nat} : xMono (o_newl bc bs n) := fun L S AH c k k' Q hk h => by
  unfold o_newl at h ⊢
  split at h
  · exact ⟨h.1, h.2.1, h.2.2.1, h.2.2.2.1, hk _ _ _ _ _ h.2.2.2.2⟩
  · exact h.elim
theorem ok_newl {bc bs : Nat} (hd : decode M.2.1 pc = .ok (.newarray .long, 2)) (hbc : M.2.2.2.2.cells = bc) (hbs : M.2.2.2.2.slots = bs) (w1 : Cond.arrayClass .long ∈ wsAll) (hn : pc + 2 = n) : xOK Z M pc (o_newl bc bs n) := ⟨m_newl, by
  subst hn
  subst hbc
  subst hbs
  intro L S AH c Q hop l p e s m args below meth cd D cA st A FQ n0 ad0 ad ls H locs C hh hl hv hc hr
  obtain ⟨hx, hb, hml, hown, hts, hin, hU, hA, hSt, hZ⟩ := id C
  obtain ⟨hP, hD, hS, hH, hn0, had⟩ := id hh
  unfold o_newl at hop
  split at hop
  · rename_i z S'
    obtain ⟨g0, gb, g1, g2, hop⟩ := hop
    refine va_newa (atype := .long) (ty := .long) (a0 := (z.toNatClampNeg, .inr (.inl (fun _ => 0)))) (D := D) (rest := S'.map (xv ad st)) hx hb (hts _ w1) rfl hU.1 hP hD hS hA (fun _ => rfl) g0 rfl (show z.toNatClampNeg * 8 ≤ 536870912 by omega) g1 g2 hd (fun q1 cA1 H1 gK gP gD gS => ?_)
    have ec : cA1 = cA 1 := by
      have e1 : s.vm.findClass _ = some cA1 := (gK.2 3 (cA1, .long) rfl).2
      have e2 : s.vm.findClass _ = some (cA 1) := (hU.1.2 1 (cA 1, .long) rfl).2
      exact Option.some.inj (e1.symm.trans e2)
    subst ec
    have hop := hop l p e s m args below meth cd D cA st A FQ n0 ad0 (va_up ad AH.length q1) ls H1 locs C (x_grow hH (by trivial) hn0 had gP gD gS) (hl.ad (fun i hi => va_up_lt hi) hv.1) ⟨fun v hm => (hv.1 v hm).mono (by rw [List.length_append]; omega), vcn (show AH.length < (AH ++ [_]).length by rw [List.length_append]; exact Nat.lt_succ_self _) (fun v hm => ((vtl hv.2) v hm).mono (by rw [List.length_append]; omega))⟩ ⟨g1, g2⟩ hr
    rw [List.map_cons, xvs_eq (fun i hi => va_up_lt hi) (vtl hv.2), show xv (va_up ad AH.length q1) st (.ref AH.length) = .ref q1 from by simp only [xv, va_up_at]] at hop
    exact hop
  · exact hop.elim⟩
theorem m_newq {bc bs : Nat} : xMono (o_newq bc bs n) := fun L S AH c k k' Q hk h => by
  unfold o_newq at h ⊢
  split at h
  · exact ⟨h.1, h.2.1, h.2.2.1, h.2.2.2.1, hk _ _ _ _ _ h.2.2.2.2⟩
  · exact h.elim
theorem ok_newq {bc bs idx : Nat} (hd : decode M.2.1 pc = .ok (.anewarray idx, 3)) (hbc : M.2.2.2.2.cells = bc) (hbs : M.2.2.2.2.slots = bs) (w1 : Cond.classLink M.1.cls idx "GrainGrower$Tape" ∈ wsAll) (hn : pc + 3 = n) : xOK Z M pc (o_newq bc bs n) := ⟨m_newq, by
  subst hn
  subst hbc
  subst hbs
  intro L S AH c Q hop l p e s m args below meth cd D cA st A FQ n0 ad0 ad ls H locs C hh hl hv hc hr
  obtain ⟨hx, hb, hml, hown, hts, hin, hU, hA, hSt, hZ⟩ := id C
  obtain ⟨hP, hD, hS, hH, hn0, had⟩ := id hh
  unfold o_newq at hop
  split at hop
  · rename_i z S'
    obtain ⟨g0, gb, g1, g2, hop⟩ := hop
    refine va_newq (C := "GrainGrower$Tape") (D := D) (rest := S'.map (xv ad st)) hx hb hown (hts _ w1) hU.2.2 hU.1 hP hD hS hA g0 rfl (by omega) g1 g2 hd (fun q1 cA1 H1 gK gP gD gS => ?_)
    have ec : cA1 = cA 2 := by
      obtain ⟨_, _, _, _, _, e1⟩ := (gK.2 3 (cA1, .object "GrainGrower$Tape") rfl).2
      obtain ⟨_, _, _, _, _, e2⟩ := (hU.1.2 2 (cA 2, .object "GrainGrower$Tape") rfl).2
      exact Option.some.inj (e1.symm.trans e2)
    subst ec
    have hop := hop l p e s m args below meth cd D cA st A FQ n0 ad0 (va_up ad AH.length q1) ls H1 locs C (x_grow hH (fun j a hj => by cases hj) hn0 had gP gD gS) (hl.ad (fun i hi => va_up_lt hi) hv.1) ⟨fun v hm => (hv.1 v hm).mono (by rw [List.length_append]; omega), vcn (show AH.length < (AH ++ [_]).length by rw [List.length_append]; exact Nat.lt_succ_self _) (fun v hm => ((vtl hv.2) v hm).mono (by rw [List.length_append]; omega))⟩ ⟨g1, g2⟩ hr
    rw [List.map_cons, xvs_eq (fun i hi => va_up_lt hi) (vtl hv.2), show xv (va_up ad AH.length q1) st (.ref AH.length) = .ref q1 from by simp only [xv, va_up_at]] at hop
    exact hop
  · exact hop.elim⟩

/-! calls -/
theorem x_after {p : Program} {l : Launch} {e : Env} {R : Room} {s : State} {m : MethodId} {args : Array Value} {below : List Frame} {meth : Method} {c : Code} {H : Heap} {locs : List Loc} {cells slots mc ms : Nat} {Q : State → Prop} {pc : Nat} {ls : Array Slot} {rest st0 : List Value} {a : Array Value} {A0 A1 : Nat → Prop} {H0 : Heap} {free : Addr → Prop} {D : va_G} {cA : Nat → ClassId} {st ad : Nat → Nat} {n0 : Nat} {Qx : Option Value → xH → Prop}
    (hr : va_Run p l e R s m args below meth c H locs cells slots mc ms (F0 m pc ls st0) rest (xPost D cA st ad A1 n0 Qx a) free) (hS : va_S A0 H0 H locs) (hA : ∀ q, q < H.size → A1 q → A0 q) (hf : ∀ q, free q → A0 q)
    (kk : ∀ (v : Option Value) (AH' : xH) (ad' : Nat → Nat) (H1 : Heap) (locs1 : List Loc), Qx v AH' → va_P D vwCl (xw ad' st cA AH') H1 → va_D A1 (xw ad' st cA AH') → xvH AH' → n0 ≤ AH'.length → (∀ i, i < n0 → ad' i = ad i) → (∀ x, v = some x → xvV AH'.length x) → va_S A0 H0 H1 locs1 → W p l e R s m args below meth c H1 locs1 (cells + mc) (slots + ms) Q (F0 m (pc + 3) ls ((v.map (xv ad' st)).toList ++ rest))) : W p l e R s m args below meth c H locs cells slots Q (F0 m pc ls st0) := by
  intro T hT X
  obtain ⟨v0, st₀, t, T', L, h0, X', hL, e1, e2, ⟨⟨v, AH', ad', hv, q1, q2, q3, q4, q5, q6, q7⟩, hz, hk⟩, g⟩ := hr T hT X
  cases hv
  rw [h0] at hz hk
  obtain ⟨t2, a1, b1⟩ := kk v AH' ad' T'.heap (locs ++ L) q1 (by rw [e1]; exact q2) q3 q4 q5 q6 q7
    ⟨Nat.le_trans hS.1 (by rw [e1]; exact hz), fun q h1 h2 => by rw [e1, hk q (Nat.lt_of_lt_of_le h1 hS.1) (fun z => h2 (hA q (Nat.lt_of_lt_of_le h1 hS.1) z))]; exact hS.2.1 q h1 h2, fun q hq => by
      rcases List.mem_append.mp hq with h | h
      · exact hS.2.2 q h
      · exact hf _ (hL q h)⟩ T' rfl X'
  exact ⟨t2, g t2 a1, b1⟩
theorem x_blind {D : va_G} {cA : Nat → ClassId} {st ad : Nat → Nat} {sz : Nat} {as : List Value} {AH : xH} : FrameBlind (xPre D cA st ad sz as AH) := fun a U g mk q => ⟨q.1, q.2.1, q.2.2.1, q.2.2.2.1, q.2.2.2.2.1.same (U := U.calling g mk a) rfl, q.2.2.2.2.2.moved (U := U.calling g mk a) (Vm.Alike.refl U.vm)⟩
theorem x_pre {D : va_G} {cA : Nat → ClassId} {st ad : Nat → Nat} {A : Nat → Prop} {s : State} {AH : xH} {H : Heap} {locs : List Loc} (hU : xU D cA s) (hSt : xSt st A s s.heap) (hP : va_P D vwCl (xw ad st cA AH) H) (hD : va_D A (xw ad st cA AH)) (hS : va_S A s.heap H locs) (hA : ∀ q, s.heap.size ≤ q → A q) (as : List Value) : ∀ U : State, U.heap = H → s.WarmedH U.vm → xPre D cA st ad H.size as AH (as.map (xv ad st)).toArray U := fun U hu hW =>
  ⟨rfl, by rw [hu], by rw [hu]; exact hP, hD.weaken (fun _ _ _ _ => trivial), hU.warm hW, hSt.to hS hW.alike (fun q h => h.elim (fun ⟨k, x, hk⟩ => hD.2 k (q, x) hk) (fun h => hA q (Nat.le_trans hS.1 h))) hu⟩
theorem x_ws {M' : xM} (w5 : Cond.code M'.1 M'.2.1 M'.2.2.1 M'.2.2.2.1 ∈ wsAll) : GoodIn wsAll (xWs M') := fun w hw => by
  rcases List.mem_cons.mp hw with rfl | hw
  · exact wsAll_good _ w5
  · exact wsAll_good _ hw
/-- the room that a call asks for -/
abbrev xroom (M M' : xM) : Prop := M'.2.2.2.2.frames + 1 ≤ M.2.2.2.2.frames ∧ 8 + (M'.2.2.1 + 11) + M'.2.2.2.2.locals ≤ M.2.2.2.2.locals
abbrev xdesc (y : MethodName) (na : Nat) : Prop := y.cls ≠ "java/lang/invoke/MethodHandle" ∧ y.cls ≠ "java/lang/invoke/VarHandle" ∧ (parseMethodDescriptor y.desc).map (fun d => d.parameters.length) = some na
/-- behind the call -/
theorem x_goon {Z : xZ} {M M' : xM} {pc : Nat} {L : xL} {S' : List Value} {AH : xH} {c : Nat × Nat} {Q : xQ} {Qx : Option Value → xH → Prop} {l : Launch} {p : Program} {e : Env} {s : State} {m : MethodId} {args : Array Value} {below : List Frame} {meth : Method} {cd : Code} {D : va_G} {cA : Nat → ClassId} {st : Nat → Nat} {A : Nat → Prop} {FQ : State → Prop} {n0 : Nat} {ad0 ad : Nat → Nat} {ls : Array Slot} {H : Heap} {locs : List Loc} {st0 : List Value} {a : Array Value}
    (C : xCtx Z M p s m args meth cd D cA st A) (hh : xHp D cA st ad A s n0 ad0 AH H locs) (hl : xLs ad st M.2.2.1 ls L) (hvL : ∀ v, some v ∈ L → xvV AH.length v) (hvS : ∀ v ∈ S', xvV AH.length v) (hr : xRet M p l e s m args below meth cd D cA st A FQ n0 ad0 Q)
    (hcb : c.1 + M'.2.2.2.2.cells ≤ M.2.2.2.2.cells ∧ c.2 + M'.2.2.2.2.slots ≤ M.2.2.2.2.slots)
    (hrun : va_Run p l e M.2.2.2.2 s m args below meth cd H locs c.1 c.2 M'.2.2.2.2.cells M'.2.2.2.2.slots (F0 m pc ls st0) (S'.map (xv ad st)) (xPost D cA st ad (va_A (xw ad st cA AH) H.size) AH.length Qx a) (va_A (xw ad st cA AH) H.size))
    (hk : ∀ v AH', Qx v AH' → XW Z M (pc + 3) L (v.toList ++ S') AH' (c.1 + M'.2.2.2.2.cells, c.2 + M'.2.2.2.2.slots) Q) : W p l e M.2.2.2.2 s m args below meth cd H locs c.1 c.2 FQ (F0 m pc ls st0) := by
  obtain ⟨hx, hb, hml, hown, hts, hin, hU, hA, hSt, hZ⟩ := id C
  obtain ⟨hP, hD, hS, hH, hn0, had⟩ := id hh
  have hAA : ∀ q, va_A (xw ad st cA AH) H.size q → A q := fun q h => h.elim (fun ⟨k, x, hk⟩ => hD.2 k (q, x) hk) (fun h => hA q (Nat.le_trans hS.1 h))
  refine x_after hrun hS (fun q _ h => hAA q h) hAA (fun v AH' ad' H1 locs1 q1 q2 q3 q4 q5 q6 q7 gS => ?_)
  have hop := hk v AH' q1 l p e s m args below meth cd D cA st A FQ n0 ad0 ad' ls H1 locs1 C ⟨q2, q3.weaken (fun _ q _ h => hAA _ h), gS, q4, Nat.le_trans hn0 q5, fun i hi => (q6 i (Nat.lt_of_lt_of_le hi hn0)).trans (had i hi)⟩ (hl.ad q6 hvL) ⟨fun w hm => (hvL w hm).mono q5, fun w hm => by
    rcases List.mem_append.mp hm with h | h
    · exact q7 w (by cases v with
        | none => cases h
        | some y => rw [List.mem_singleton.mp h])
    · exact (hvS w h).mono q5⟩ hcb hr
  rw [List.map_append, xvs_eq q6 hvS] at hop
  cases v <;> exact hop
def o_callV (ci : Nat) (M' : xM) (na n : Nat) : xOp := fun L S AH c k _ => match S.drop na with
  | .ref b :: S' => xcls AH b ci ∧ xwt S' ≤ 8 ∧ XC M' (.ref b :: (S.take na).reverse) AH (fun v AH' => k n L (v.toList ++ S') AH' c)
  | _ => False
theorem m_callV {ci na : Nat} {M' : xM} : xMono (o_callV ci M' na n) := fun L S AH c k k' Q hk h => by
  unfold o_callV at h ⊢
  split at h
  · exact ⟨h.1, h.2.1, h.2.2.mono (fun v AH' hv => hk _ _ _ _ _ hv)⟩
  · exact h.elim
theorem ok_callV {M' : xM} {ci na idx : Nat} {q : vw_C} (hd : decode M.2.1 pc = .ok (.invokevirtual idx, 3)) (hq : vwCl[ci]? = some q) (hC : q.1 = M'.1.cls) (w1 : Cond.methodLink M.1.cls idx M'.1 ∈ wsAll) (w2 : Cond.instanceMethod M'.1 ∈ wsAll) (w3 : Cond.selects M'.1.cls M'.1 M'.1 ∈ wsAll) (w4 : Cond.initialized M'.1.cls ∈ wsAll) (w5 : Cond.code M'.1 M'.2.1 M'.2.2.1 M'.2.2.2.1 ∈ wsAll) (hy : xdesc M'.1 na) (hR : xroom M M') (hz : M'.2.2.2.2.cells = 0 ∧ M'.2.2.2.2.slots = 0) (hn : pc + 3 = n) : xOK Z M pc (o_callV ci M' na n) := ⟨m_callV, by
  subst hn
  intro L S AH c Q hop l p e s m args below meth cd D cA st A FQ n0 ad0 ad ls H locs C hh hl hv hc hr
  obtain ⟨hx, hb, hml, hown, hts, hin, hU, hA, hSt, hZ⟩ := id C
  obtain ⟨hP, hD, hS, hH, hn0, had⟩ := id hh
  unfold o_callV at hop
  split at hop
  · rename_i b S' hdr
    obtain ⟨h1, h2, hop⟩ := hop
    obtain ⟨fs, h1⟩ := h1.of
    have hSe : S = S.take na ++ .ref b :: S' := by rw [← hdr, List.take_append_drop]
    have hlen : (S.take na).length = na := by
      rw [List.length_take]
      have : (S.drop na).length = (Value.ref b :: S').length := by rw [hdr]
      rw [List.length_drop, List.length_cons] at this
      omega
    have hva : ∀ v ∈ Value.ref b :: (S.take na).reverse, xvV AH.length v := fun v hm => hv.2 v (by
      rw [hSe]
      rcases List.mem_cons.mp hm with rfl | hm
      · exact List.mem_append_right _ List.mem_cons_self
      · exact List.mem_append_left _ (List.mem_reverse.mp hm))
    have hvS : ∀ v ∈ S', xvV AH.length v := fun v hm => hv.2 v (by rw [hSe]; exact List.mem_append_right _ (List.mem_cons_of_mem _ hm))
    have hstk : S.map (xv ad st) = ((S.take na).reverse.map (xv ad st)).reverse ++ .ref (ad b) :: S'.map (xv ad st) := by
      rw [← List.map_reverse, List.reverse_reverse]
      conv => lhs; rw [hSe]
      rw [List.map_append]
      rfl
    refine x_goon (M' := M') (S' := S') C hh hl hv.1 hvS hr (by rw [hz.1, hz.2]; exact hc) (va_runV (As := (S.take na).reverse.map (xv ad st)) (rest := S'.map (xv ad st)) ⟨hx, hb, hml, hown, hts⟩ (hop hva hH l D cA st ad H.size) (cwV (C := M'.1.cls) na hts (fun w hw => ?_) rfl rfl rfl ⟨rfl, hy⟩ hR) ⟨x_blind, hC ▸ va_recv hU.1 hP hq (xw_get h1), x_pre hU hSt hP hD hS hA (Value.ref b :: (S.take na).reverse)⟩ rfl (by rw [List.length_map, List.length_reverse, hlen]) hl.1 hstk (lv_room (by rw [xwt_v]; exact h2)) hd (by rw [hz.1, hz.2]; exact hc)) (fun v AH' hq => ?_)
    · rcases List.mem_append.mp hw with hw | hw
      · have : w ∈ wsAll := by
          simp only [List.mem_cons, List.not_mem_nil, or_false] at hw
          rcases hw with rfl | rfl | rfl | rfl
          · exact w1
          · exact w2
          · exact w3
          · exact w4
        exact wsAll_good w this
      · exact x_ws w5 w hw
    · rw [hz.1, hz.2]
      exact hq
  · exact hop.elim⟩
def o_callS (M' : xM) (na n : Nat) : xOp := fun L S AH c k _ => na ≤ S.length ∧ xwt (S.drop na) ≤ 8 ∧ XC M' (S.take na).reverse AH (fun v AH' => k n L (v.toList ++ S.drop na) AH' c)
theorem m_callS {na : Nat} {M' : xM} : xMono (o_callS M' na n) := fun L S AH c k k' Q hk h => ⟨h.1, h.2.1, h.2.2.mono (fun v AH' hv => hk _ _ _ _ _ hv)⟩
theorem ok_callS {M' : xM} {na idx : Nat} (hd : decode M.2.1 pc = .ok (.invokestatic idx, 3)) (w1 : Cond.methodLink M.1.cls idx M'.1 ∈ wsAll) (w2 : Cond.static M'.1 ∈ wsAll) (w4 : Cond.initialized M'.1.cls ∈ wsAll) (w5 : Cond.code M'.1 M'.2.1 M'.2.2.1 M'.2.2.2.1 ∈ wsAll) (hy : xdesc M'.1 na) (hR : xroom M M') (hz : M'.2.2.2.2.cells = 0 ∧ M'.2.2.2.2.slots = 0) (hn : pc + 3 = n) : xOK Z M pc (o_callS M' na n) := ⟨m_callS, by
  subst hn
  intro L S AH c Q hop l p e s m args below meth cd D cA st A FQ n0 ad0 ad ls H locs C hh hl hv hc hr
  obtain ⟨hx, hb, hml, hown, hts, hin, hU, hA, hSt, hZ⟩ := id C
  obtain ⟨hP, hD, hS, hH, hn0, had⟩ := id hh
  obtain ⟨h1, h2, hop⟩ := hop
  have hva : ∀ v ∈ (S.take na).reverse, xvV AH.length v := fun v hm => hv.2 v (List.mem_of_mem_take (List.mem_reverse.mp hm))
  have hvS : ∀ v ∈ S.drop na, xvV AH.length v := fun v hm => hv.2 v (List.mem_of_mem_drop hm)
  refine x_goon (M' := M') (S' := S.drop na) C hh hl hv.1 hvS hr (by rw [hz.1, hz.2]; exact hc) (va_runS (As := (S.take na).reverse.map (xv ad st)) (rest := (S.drop na).map (xv ad st)) ⟨hx, hb, hml, hown, hts⟩ (hop hva hH l D cA st ad H.size) (va_cwS na hts (fun w hw => ?_) rfl rfl rfl hy hR) ⟨x_blind, x_pre hU hSt hP hD hS hA (S.take na).reverse⟩ rfl (by rw [List.length_map, List.length_reverse, List.length_take]; omega) hl.1 (by show S.map (xv ad st) = _; rw [← List.map_reverse, List.reverse_reverse, ← List.map_append, List.take_append_drop]) (lv_room (by rw [xwt_v]; exact h2)) hd (by rw [hz.1, hz.2]; exact hc)) (fun v AH' hq => ?_)
  · rcases List.mem_append.mp hw with hw | hw
    · have : w ∈ wsAll := by
        simp only [List.mem_cons, List.not_mem_nil, or_false] at hw
        rcases hw with rfl | rfl | rfl
        · exact w1
        · exact w2
        · exact w4
      exact wsAll_good w this
    · exact x_ws w5 w hw
  · rw [hz.1, hz.2]
    exact hq⟩
theorem ok_callSN {M' : xM} {na idx : Nat} {host : String} (hd : decode M.2.1 pc = .ok (.invokestatic idx, 3)) (w1 : (M.1.cls, idx, M'.1, host) ∈ nestW) (w2 : Cond.static M'.1 ∈ wsAll) (w4 : Cond.initialized M'.1.cls ∈ wsAll) (w5 : Cond.code M'.1 M'.2.1 M'.2.2.1 M'.2.2.2.1 ∈ wsAll) (hy : xdesc M'.1 na) (hR : xroom M M') (hz : M'.2.2.2.2.cells = 0 ∧ M'.2.2.2.2.slots = 0) (hn : pc + 3 = n) : xOK Z M pc (o_callS M' na n) := ⟨m_callS, by
  subst hn
  intro L S AH c Q hop l p e s m args below meth cd D cA st A FQ n0 ad0 ad ls H locs C hh hl hv hc hr
  obtain ⟨hx, hb, hml, hown, hts, hin, hU, hA, hSt, hZ⟩ := id C
  obtain ⟨hP, hD, hS, hH, hn0, had⟩ := id hh
  obtain ⟨h1, h2, hop⟩ := hop
  have hva : ∀ v ∈ (S.take na).reverse, xvV AH.length v := fun v hm => hv.2 v (List.mem_of_mem_take (List.mem_reverse.mp hm))
  have hvS : ∀ v ∈ S.drop na, xvV AH.length v := fun v hm => hv.2 v (List.mem_of_mem_drop hm)
  refine x_goon (M' := M') (S' := S.drop na) C hh hl hv.1 hvS hr (by rw [hz.1, hz.2]; exact hc) (va_runSN (host := host) (As := (S.take na).reverse.map (xv ad st)) (rest := (S.drop na).map (xv ad st)) ⟨hx, hb, hml, hown, hts⟩ (hop hva hH l D cA st ad H.size) ⟨va_cnB na hts (x_ws w5) rfl rfl rfl (hU.2.1 _ w1) (hts _ w4) hy hR, hts _ w2, trivial⟩ ⟨x_blind, x_pre hU hSt hP hD hS hA (S.take na).reverse⟩ rfl (by rw [List.length_map, List.length_reverse, List.length_take]; omega) hl.1 (by show S.map (xv ad st) = _; rw [← List.map_reverse, List.reverse_reverse, ← List.map_append, List.take_append_drop]) (lv_room (by rw [xwt_v]; exact h2)) hd (by rw [hz.1, hz.2]; exact hc)) (fun v AH' hq => ?_)
  rw [hz.1, hz.2]
  exact hq⟩
def o_callI (M' : xM) (na bc bs n : Nat) : xOp := fun L S AH c k _ => match S.drop na with
  | .ref b :: S' => xwt S' ≤ 8 ∧ c.1 + M'.2.2.2.2.cells ≤ bc ∧ c.2 + M'.2.2.2.2.slots ≤ bs ∧ XC M' (.ref b :: (S.take na).reverse) AH (fun v AH' => k n L (v.toList ++ S') AH' (c.1 + M'.2.2.2.2.cells, c.2 + M'.2.2.2.2.slots))
  | _ => False
theorem m_callI {na bc bs : Nat} {M' : xM} : xMono (o_callI M' na bc bs n) := fun L S AH c k k' Q hk h => by
  unfold o_callI at h ⊢
  split at h
  · exact ⟨h.1, h.2.1, h.2.2.1, h.2.2.2.mono (fun v AH' hv => hk _ _ _ _ _ hv)⟩
  · exact h.elim
theorem ok_callI {M' : xM} {na bc bs idx : Nat} (hd : decode M.2.1 pc = .ok (.invokespecial idx, 3)) (hbc : M.2.2.2.2.cells = bc) (hbs : M.2.2.2.2.slots = bs) (w1 : Cond.methodLink M.1.cls idx M'.1 ∈ wsAll) (w2 : Cond.instanceMethod M'.1 ∈ wsAll) (w4 : Cond.initialized M'.1.cls ∈ wsAll) (w5 : Cond.code M'.1 M'.2.1 M'.2.2.1 M'.2.2.2.1 ∈ wsAll) (hret : M'.2.2.2.1 = none) (hnm : M'.1.name = "<init>") (hy : xdesc M'.1 na) (hR : xroom M M') (hn : pc + 3 = n) : xOK Z M pc (o_callI M' na bc bs n) := ⟨m_callI, by
  subst hn
  subst hbc
  subst hbs
  intro L S AH c Q hop l p e s m args below meth cd D cA st A FQ n0 ad0 ad ls H locs C hh hl hv hc hr
  obtain ⟨hx, hb, hml, hown, hts, hin, hU, hA, hSt, hZ⟩ := id C
  obtain ⟨hP, hD, hS, hH, hn0, had⟩ := id hh
  unfold o_callI at hop
  split at hop
  · rename_i b S' hdr
    obtain ⟨h2, g1, g2, hop⟩ := hop
    have hSe : S = S.take na ++ .ref b :: S' := by rw [← hdr, List.take_append_drop]
    have hlen : (S.take na).length = na := by
      rw [List.length_take]
      have : (S.drop na).length = (Value.ref b :: S').length := by rw [hdr]
      rw [List.length_drop, List.length_cons] at this
      omega
    have hva : ∀ v ∈ Value.ref b :: (S.take na).reverse, xvV AH.length v := fun v hm => hv.2 v (by
      rw [hSe]
      rcases List.mem_cons.mp hm with rfl | hm
      · exact List.mem_append_right _ List.mem_cons_self
      · exact List.mem_append_left _ (List.mem_reverse.mp hm))
    have hvS : ∀ v ∈ S', xvV AH.length v := fun v hm => hv.2 v (by rw [hSe]; exact List.mem_append_right _ (List.mem_cons_of_mem _ hm))
    have hstk : S.map (xv ad st) = ((S.take na).reverse.map (xv ad st)).reverse ++ .ref (ad b) :: S'.map (xv ad st) := by
      rw [← List.map_reverse, List.reverse_reverse]
      conv => lhs; rw [hSe]
      rw [List.map_append]
      rfl
    exact x_goon (M' := M') (S' := S') C hh hl hv.1 hvS hr ⟨g1, g2⟩ (va_runI (As := (S.take na).reverse.map (xv ad st)) (rest := S'.map (xv ad st)) ⟨hx, hb, hml, hown, hts⟩ (by have := hop hva hH l D cA st ad H.size; exact this) (cwI (bytes := M'.2.1) (maxL := M'.2.2.1) (ws' := wsAll) na hts (x_ws w5) (by rw [xWs, hret]) rfl rfl (hts _ w4) (hts _ w1) (hts _ w2) hnm hy hR) ⟨x_blind, x_pre hU hSt hP hD hS hA (Value.ref b :: (S.take na).reverse)⟩ rfl (by rw [List.length_map, List.length_reverse, hlen]) hl.1 hstk (lv_room (by rw [xwt_v]; exact h2)) hd ⟨g1, g2⟩) (fun v AH' hq => hq)
  · exact hop.elim⟩
theorem ok_callIN {M' : xM} {na bc bs idx : Nat} (hd : decode M.2.1 pc = .ok (.invokespecial idx, 3)) (hbc : M.2.2.2.2.cells = bc) (hbs : M.2.2.2.2.slots = bs) {host : String} (w1 : (M.1.cls, idx, M'.1, host) ∈ nestW) (w2 : Cond.instanceMethod M'.1 ∈ wsAll) (w4 : Cond.initialized M'.1.cls ∈ wsAll) (w5 : Cond.code M'.1 M'.2.1 M'.2.2.1 M'.2.2.2.1 ∈ wsAll) (hret : M'.2.2.2.1 = none) (hnm : M'.1.name = "<init>") (hy : xdesc M'.1 na) (hR : xroom M M') (hn : pc + 3 = n) : xOK Z M pc (o_callI M' na bc bs n) := ⟨m_callI, by
  subst hn
  subst hbc
  subst hbs
  intro L S AH c Q hop l p e s m args below meth cd D cA st A FQ n0 ad0 ad ls H locs C hh hl hv hc hr
  obtain ⟨hx, hb, hml, hown, hts, hin, hU, hA, hSt, hZ⟩ := id C
  obtain ⟨hP, hD, hS, hH, hn0, had⟩ := id hh
  unfold o_callI at hop
  split at hop
  · rename_i b S' hdr
    obtain ⟨h2, g1, g2, hop⟩ := hop
    have hSe : S = S.take na ++ .ref b :: S' := by rw [← hdr, List.take_append_drop]
    have hlen : (S.take na).length = na := by
      rw [List.length_take]
      have : (S.drop na).length = (Value.ref b :: S').length := by rw [hdr]
      rw [List.length_drop, List.length_cons] at this
      omega
    have hva : ∀ v ∈ Value.ref b :: (S.take na).reverse, xvV AH.length v := fun v hm => hv.2 v (by
      rw [hSe]
      rcases List.mem_cons.mp hm with rfl | hm
      · exact List.mem_append_right _ List.mem_cons_self
      · exact List.mem_append_left _ (List.mem_reverse.mp hm))
    have hvS : ∀ v ∈ S', xvV AH.length v := fun v hm => hv.2 v (by rw [hSe]; exact List.mem_append_right _ (List.mem_cons_of_mem _ hm))
    have hstk : S.map (xv ad st) = ((S.take na).reverse.map (xv ad st)).reverse ++ .ref (ad b) :: S'.map (xv ad st) := by
      rw [← List.map_reverse, List.reverse_reverse]
      conv => lhs; rw [hSe]
      rw [List.map_append]
      rfl
    exact x_goon (M' := M') (S' := S') C hh hl hv.1 hvS hr ⟨g1, g2⟩ (va_runIN (host := host) (As := (S.take na).reverse.map (xv ad st)) (rest := S'.map (xv ad st)) ⟨hx, hb, hml, hown, hts⟩ (by have := hop hva hH l D cA st ad H.size; exact this) ⟨va_cnB (bytes := M'.2.1) (maxL := M'.2.2.1) (ret := none) (ws' := wsAll) na hts (x_ws w5) (by rw [xWs, hret]) rfl rfl (hU.2.1 _ w1) (hts _ w4) hy hR, hnm, hts _ w2⟩ ⟨x_blind, x_pre hU hSt hP hD hS hA (Value.ref b :: (S.take na).reverse)⟩ rfl (by rw [List.length_map, List.length_reverse, hlen]) hl.1 hstk (lv_room (by rw [xwt_v]; exact h2)) hd ⟨g1, g2⟩) (fun v AH' hq => hq)
  · exact hop.elim⟩

def o_objinit (n : Nat) : xOp := fun L S AH c k _ => match S with
  | .ref _ :: S' => xwt S' ≤ 8 ∧ k n L S' AH c
  | _ => False
theorem m_objinit : xMono (o_objinit n) := fun L S AH c k k' Q hk h => by
  unfold o_objinit at h ⊢
  split at h
  · exact ⟨h.1, hk _ _ _ _ _ h.2⟩
  · exact h.elim
theorem ok_objinit {idx : Nat} (hd : decode M.2.1 pc = .ok (.invokespecial idx, 3)) (w1 : Cond.methodLink M.1.cls idx objectInit ∈ wsAll) (w2 : Cond.instanceMethod objectInit ∈ wsAll) (w3 : Cond.code objectInit ⟨#[0xb1]⟩ 1 none ∈ wsAll) (hR : 1 ≤ M.2.2.2.2.frames ∧ 20 ≤ M.2.2.2.2.locals) (hn : pc + 3 = n) : xOK Z M pc (o_objinit n) := ⟨m_objinit, by
  subst hn
  intro L S AH c Q hop l p e s m args below meth cd D cA st A FQ n0 ad0 ad ls H locs C hh hl hv hc hr
  obtain ⟨hx, hb, hml, hown, hts, hin, hU, hA, hSt, hZ⟩ := id C
  obtain ⟨hP, hD, hS, hH, hn0, had⟩ := id hh
  unfold o_objinit at hop
  split at hop
  · rename_i a S'
    refine W.objInit (rest := S'.map (xv ad st)) hx hb hown (hts _ w1) (hts _ w2) (hts _ w3) rfl (by rw [hml]; exact hl.1) rfl hd hR.1 ?_ (hop.2 l p e s m args below meth cd D cA st A FQ n0 ad0 ad ls H locs C hh hl ⟨hv.1, vtl hv.2⟩ hc hr)
    have := lv_room (m := m) (pc := pc) (ls := ls) (rest := (Value.ref a :: S').map (xv ad st)) (st := S'.map (xv ad st)) (by rw [xwt_v]; exact hop.1)
    have h3 := hR.2
    omega
  · exact hop.elim⟩
def xcpy (AH : xH) (a0 : Nat) (sp : Int32) (a1 : Nat) (dp z : Int32) (K : xH → Prop) : Prop := ¬ sp < 0 ∧ ¬ dp < 0 ∧ ¬ z < 0 ∧ match AH[a0]?, AH[a1]? with
  | some (.inl (n0, .inl f)), some (.inl (n1, .inl g)) => sp.toNatClampNeg + z.toNatClampNeg ≤ n0 ∧ dp.toNatClampNeg + z.toNatClampNeg ≤ n1 ∧ K (AH.set a1 (.inl (n1, .inl (va_cpy f g sp.toNatClampNeg dp.toNatClampNeg z.toNatClampNeg))))
  | some (.inl (n0, .inr (.inl f))), some (.inl (n1, .inr (.inl g))) => sp.toNatClampNeg + z.toNatClampNeg ≤ n0 ∧ dp.toNatClampNeg + z.toNatClampNeg ≤ n1 ∧ K (AH.set a1 (.inl (n1, .inr (.inl (va_cpy f g sp.toNatClampNeg dp.toNatClampNeg z.toNatClampNeg)))))
  | _, _ => False
def o_copy (n : Nat) : xOp := fun L S AH c k _ => match S with
  | .int z :: .int dp :: .ref a1 :: .int sp :: .ref a0 :: S' => xwt S' ≤ 8 ∧ xcpy AH a0 sp a1 dp z (fun AH' => k n L S' AH' c)
  | _ => False
theorem m_copy : xMono (o_copy n) := fun L S AH c k k' Q hk h => by
  unfold o_copy at h ⊢
  split at h
  · refine ⟨h.1, ?_⟩
    obtain ⟨h1, h2, h3, h4⟩ := h.2
    refine ⟨h1, h2, h3, ?_⟩
    split at h4
    · exact ⟨h4.1, h4.2.1, hk _ _ _ _ _ h4.2.2⟩
    · exact ⟨h4.1, h4.2.1, hk _ _ _ _ _ h4.2.2⟩
    · exact h4.elim
  · exact h.elim
theorem ok_copy {idx : Nat} (hd : decode M.2.1 pc = .ok (.invokestatic idx, 3)) (w1 : Cond.methodLink M.1.cls idx arraycopyName ∈ wsAll) (w2 : Cond.native arraycopyName ∈ wsAll) (w3 : Cond.static arraycopyName ∈ wsAll) (w4 : Cond.initialized "java/lang/System" ∈ wsAll) (hR : 1 ≤ M.2.2.2.2.frames ∧ 26 ≤ M.2.2.2.2.locals) (hn : pc + 3 = n) : xOK Z M pc (o_copy n) := ⟨m_copy, by
  subst hn
  intro L S AH c Q hop l p e s m args below meth cd D cA st A FQ n0 ad0 ad ls H locs C hh hl hv hc hr
  obtain ⟨hx, hb, hml, hown, hts, hin, hU, hA, hSt, hZ⟩ := id C
  obtain ⟨hP, hD, hS, hH, hn0, had⟩ := id hh
  unfold o_copy at hop
  split at hop
  · rename_i z dp a1 sp a0 S'
    obtain ⟨h0, h1, h2, h3, h4⟩ := hop
    have hloc : ((S'.map (xv ad st)).map fun v => v.category).sum + (nativeFrameWords "java/lang/System" "arraycopy" 5 + 11) ≤ M.2.2.2.2.locals := by
      rw [xwt_v]
      have : nativeFrameWords "java/lang/System" "arraycopy" 5 = 7 := by decide
      have := hR.2
      omega
    have hvS := vtl (vtl (vtl (vtl (vtl hv.2))))
    split at h4
    · rename_i n0' f n1 g e0 e1
      obtain ⟨h5, h6, hop⟩ := h4
      exact va_copyi (D := D) (ty := .int) (rest := S'.map (xv ad st)) hx hb (hml.trans hl.1.symm) hown (hts _ w1) (hts _ w2) (hts _ w3) (hts _ w4) hU.1 hP hD hS a0 a1 0 0 (xw_get e0) (xw_get e1) rfl rfl rfl h1 h2 h3 h5 h6 (fun _ _ => rfl) hR.1 hloc hd (fun H1 locs1 gP gD gS => hop l p e s m args below meth cd D cA st A FQ n0 ad0 ad ls H1 locs1 C ⟨by rw [xw_set]; exact gP, by rw [xw_set]; exact gD, gS, hH.set trivial, by rw [List.length_set]; exact hn0, had⟩ hl ⟨by rw [List.length_set]; exact hv.1, by rw [List.length_set]; exact hvS⟩ hc hr)
    · rename_i n0' f n1 g e0 e1
      obtain ⟨h5, h6, hop⟩ := h4
      exact va_copyl (D := D) (ty := .long) (rest := S'.map (xv ad st)) hx hb (hml.trans hl.1.symm) hown (hts _ w1) (hts _ w2) (hts _ w3) (hts _ w4) hU.1 hP hD hS a0 a1 1 1 (xw_get e0) (xw_get e1) rfl rfl rfl h1 h2 h3 h5 h6 (fun _ _ => rfl) hR.1 hloc hd (fun H1 locs1 gP gD gS => hop l p e s m args below meth cd D cA st A FQ n0 ad0 ad ls H1 locs1 C ⟨by rw [xw_set]; exact gP, by rw [xw_set]; exact gD, gS, hH.set trivial, by rw [List.length_set]; exact hn0, had⟩ hl ⟨by rw [List.length_set]; exact hv.1, by rw [List.length_set]; exact hvS⟩ hc hr)
    · exact h4.elim
  · exact hop.elim⟩
end MAKE
