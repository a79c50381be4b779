/-! statics, nest mates, what stays over calls -/
def sT : List (String × String × List Int32) := [("GrainGrower$Lattice", "SIX_STEPS", [0, 1, 2, 3, 4, 6]), ("GrainGrower$Lattice", "ROW_STEPS", [-1, 0, 1, 0, -1, 1, 1, -1]), ("GrainGrower$Lattice", "COLUMN_STEPS", [0, 1, 0, -1, 1, 1, -1, -1]), ("GrainGrowerModel", "DOWN", [-1, 0, 1, 0, -1, 1, 1, -1, -1, 1]), ("GrainGrowerModel", "RIGHT", [0, 1, 0, -1, 1, 1, -1, -1, 1, -1])]
def xSt (st : Nat → Nat) (A : Nat → Prop) (U : State) (H : Heap) : Prop := ∀ (k : Nat) (q : String × String × List Int32), sT[k]? = some q → va_Z q.1 q.2.1 "[I" (.ref (st k)) A U H ∧ va_T .int (st k) q.2.2.length (fun j => .int (q.2.2.getD j 0)) A U H
def nestW : List (String × Nat × MethodName × String) := [(RX6, 11, yX5_init, RX6), (RX6, 30, yX0_init, RX6), (RX6, 37, yX3_init, RX6), (RX6, 48, yX4_init, RX6), (RX1, 82, yX6_isMark, RX6)]
def xNs (U : State) : Prop := ∀ q ∈ nestW, va_Nw (.methodLinkNest q.1 q.2.1 q.2.2.1 q.2.2.2) U
def xU (D : va_G) (cA : Nat → ClassId) (U : State) : Prop := va_K D vwCl (xTys cA) U ∧ xNs U ∧ va_AO "GrainGrower$Tape" U
theorem xU.warm {D : va_G} {cA : Nat → ClassId} {s U : State} (hW : s.WarmedH U.vm) (h : xU D cA s) : xU D cA U := ⟨va_K.moved hW.alike h.1, fun q hq => va_Nw.warmM hW (h.2.1 q hq), va_AO.moved hW.alike h.2.2⟩
theorem xU.same {D : va_G} {cA : Nat → ClassId} {u U : State} (e : u.vm = U.vm) (h : xU D cA u) : xU D cA U := ⟨va_K.moved (e ▸ Vm.Alike.refl u.vm) h.1, fun q hq => va_Nw.same rfl e (h.2.1 q hq), va_AO.moved (e ▸ Vm.Alike.refl u.vm) h.2.2⟩
theorem xSt.moved {st : Nat → Nat} {A : Nat → Prop} {u U : State} {H : Heap} (hvm : u.vm.Alike U.vm) (h : xSt st A u H) : xSt st A U H := fun k q hq => ⟨(h k q hq).1.moved hvm, (h k q hq).2.moved hvm⟩
theorem xSt.to {st : Nat → Nat} {A B : Nat → Prop} {s U : State} {H : Heap} {locs : List Loc} (h : xSt st A s s.heap) (hS : va_S A s.heap H locs) (hvm : s.vm.Alike U.vm) (hB : ∀ q, B q → A q) (hU : U.heap = H) : xSt st B U U.heap := by
  intro k q hq
  obtain ⟨h1, h2⟩ := h k q hq
  rw [hU]
  exact ⟨((h1.kept hS.2.1).narrow hB).moved hvm, ((h2.kept hS.2.1).narrow hB).moved hvm⟩
def xScr (Z : xZ) (st : Nat → Nat) (A : Nat → Prop) (s : State) : Prop := ∀ q, Z = some q → va_X (st 5) q.1 q.2 s s.heap ∧ st 5 < s.heap.size ∧ ¬ A (st 5)
def xCtx (Z : xZ) (M : xM) (p : Program) (s : State) (m : MethodId) (args : Array Value) (meth : Method) (cd : Code) (D : va_G) (cA : Nat → ClassId) (st : Nat → Nat) (A : Nat → Prop) : Prop :=
  p.tables.exec = Jvm.exec ∧ cd.code = M.2.1 ∧ cd.maxLocals = M.2.2.1 ∧ s.vm.findClass M.1.cls = some m.cls ∧ (∀ w ∈ wsAll, w.before args s = true) ∧ (M.1.name = "<init>" → meth.name = "<init>") ∧ xU D cA s ∧ (∀ q, s.heap.size ≤ q → A q) ∧ xSt st A s s.heap ∧ xScr Z st A s
def xLs (ad st : Nat → Nat) (nL : Nat) (ls : Array Slot) (L : xL) : Prop := ls.size = nL ∧ lv_wf ls ∧ ∀ (i : Nat) (v : Value), L[i]? = some (some v) → ls[i]? = some (.val (xv ad st v))
/-- the cells AH lie in the heap -/
def xHp (D : va_G) (cA : Nat → ClassId) (st ad : Nat → Nat) (A : Nat → Prop) (s : State) (n0 : Nat) (ad0 : Nat → Nat) (AH : xH) (H : Heap) (locs : List Loc) : Prop :=
  va_P D vwCl (xw ad st cA AH) H ∧ va_D A (xw ad st cA AH) ∧ va_S A s.heap H locs ∧ xvH AH ∧ n0 ≤ AH.length ∧ ∀ i, i < n0 → ad i = ad0 i
def xVl (n : Nat) (L : xL) (S : List Value) : Prop := (∀ v, some v ∈ L → xvV n v) ∧ ∀ v ∈ S, xvV n v
def xrt (ret : Option FieldType) (v : Option Value) : Prop := match ret, v with
  | none, none => True
  | some .int, some (.int _) => True
  | some .long, some (.long _) => True
  | some .boolean, some (.int z) => z = 0 ∨ z = 1
  | some (.object _), some (.ref _) => True
  | some (.object _), some .null => True
  | _, _ => False
def xri : Option Value → Instr
  | none => .return_
  | some (.int _) => .ireturn
  | some (.long _) => .lreturn
  | _ => .areturn
def xRet (M : xM) (p : Program) (l : Launch) (e : Env) (s : State) (m : MethodId) (args : Array Value) (below : List Frame) (meth : Method) (cd : Code) (D : va_G) (cA : Nat → ClassId) (st : Nat → Nat) (A : Nat → Prop) (FQ : State → Prop) (n0 : Nat) (ad0 : Nat → Nat) (Q : xQ) : Prop :=
  ∀ (v : Option Value) (AH : xH) (ad : Nat → Nat) (H : Heap) (locs : List Loc) (c : Nat × Nat) (pc : Nat) (ls : Array Slot), Q v AH c → xrt M.2.2.2.1 v → xHp D cA st ad A s n0 ad0 AH H locs → (∀ x, v = some x → xvV AH.length x) → c.1 ≤ M.2.2.2.2.cells ∧ c.2 ≤ M.2.2.2.2.slots → decode M.2.1 pc = .ok (xri v, 1) →
    W p l e M.2.2.2.2 s m args below meth cd H locs c.1 c.2 FQ (F0 m pc ls (v.toList.map (xv ad st)))
/-- from this place on the method comes to its end, with Q -/
def XW (Z : xZ) (M : xM) (pc : Nat) (L : xL) (S : List Value) (AH : xH) (c : Nat × Nat) (Q : xQ) : Prop :=
  ∀ (l : Launch) (p : Program) (e : Env) (s : State) (m : MethodId) (args : Array Value) (below : List Frame) (meth : Method) (cd : Code) (D : va_G) (cA : Nat → ClassId) (st : Nat → Nat) (A : Nat → Prop) (FQ : State → Prop) (n0 : Nat) (ad0 ad : Nat → Nat) (ls : Array Slot) (H : Heap) (locs : List Loc),
    xCtx Z M p s m args meth cd D cA st A → xHp D cA st ad A s n0 ad0 AH H locs → xLs ad st M.2.2.1 ls L → xVl AH.length L S → c.1 ≤ M.2.2.2.2.cells ∧ c.2 ≤ M.2.2.2.2.slots → xRet M p l e s m args below meth cd D cA st A FQ n0 ad0 Q →
    W p l e M.2.2.2.2 s m args below meth cd H locs c.1 c.2 FQ (F0 m pc ls (S.map (xv ad st)))
/-- what a method's caller gets -/
def xPost (D : va_G) (cA : Nat → ClassId) (st ad : Nat → Nat) (A : Nat → Prop) (n0 : Nat) (Q : Option Value → xH → Prop) : Array Value → State → Outcome → State → Prop := fun _ s0 oc t =>
  (∃ (v : Option Value) (AH : xH) (ad' : Nat → Nat), oc = .returned (v.map (xv ad' st)) ∧ Q v AH ∧ va_P D vwCl (xw ad' st cA AH) t.heap ∧ va_D A (xw ad' st cA AH) ∧ xvH AH ∧ n0 ≤ AH.length ∧ (∀ i, i < n0 → ad' i = ad i) ∧ ∀ x, v = some x → xvV AH.length x) ∧ va_F A s0 t
abbrev xWs (M : xM) : List Cond := .code M.1 M.2.1 M.2.2.1 M.2.2.2.1 :: wsAll
abbrev xPre (D : va_G) (cA : Nat → ClassId) (st ad : Nat → Nat) (sz : Nat) (args : List Value) (AH : xH) : Array Value → State → Prop :=
  va_Pc (args.map (xv ad st)) (fun U => U.heap.size = sz ∧ va_P D vwCl (xw ad st cA AH) U.heap ∧ va_D (fun _ => True) (xw ad st cA AH) ∧ xU D cA U ∧ xSt st (va_A (xw ad st cA AH) sz) U U.heap)
/-- the method, called so, comes back with Q -/
def XC (M : xM) (args : List Value) (AH : xH) (Q : Option Value → xH → Prop) : Prop :=
  (∀ v ∈ args, xvV AH.length v) → xvH AH → ∀ (l : Launch) (D : va_G) (cA : Nat → ClassId) (st ad : Nat → Nat) (sz : Nat),
    Met l M.1 (xWs M) M.2.2.2.2 (xPre D cA st ad sz args AH) (xPost D cA st ad (va_A (xw ad st cA AH) sz) AH.length Q) M.2.2.2.2.cells M.2.2.2.2.slots (va_A (xw ad st cA AH) sz)
theorem xPost.mono {D : va_G} {cA : Nat → ClassId} {st ad : Nat → Nat} {A : Nat → Prop} {n0 : Nat} {Q Q' : Option Value → xH → Prop} (h : ∀ v AH, Q v AH → Q' v AH) {a : Array Value} {s0 : State} {oc : Outcome} {t : State} (hp : xPost D cA st ad A n0 Q a s0 oc t) : xPost D cA st ad A n0 Q' a s0 oc t := by
  obtain ⟨⟨v, AH, ad', h1, h2, h3⟩, h4⟩ := hp
  exact ⟨⟨v, AH, ad', h1, h v AH h2, h3⟩, h4⟩
theorem Met.weaken {l : Launch} {y : MethodName} {ws : List Cond} {rm : Room} {Pc : Array Value → State → Prop} {Qc Qc' : Array Value → State → Outcome → State → Prop} {mc ms : Nat} {free : Addr → Prop} (hQ : ∀ a s o t, Qc a s o t → Qc' a s o t) (h : Met l y ws rm Pc Qc mc ms free) : Met l y ws rm Pc Qc' mc ms free := by
  intro p e ha hc hk s m args below hf h1 hP hK
  obtain ⟨t, o, a1, a2, a3, a4, a5⟩ := h p e ha hc hk s m args below hf h1 hP hK
  exact ⟨t, o, a1, a2, a3, hQ _ _ _ _ a4, a5⟩
theorem XC.mono {M : xM} {args : List Value} {AH : xH} {Q Q' : Option Value → xH → Prop} (h : ∀ v AH, Q v AH → Q' v AH) (hc : XC M args AH Q) : XC M args AH Q' :=
  fun h1 h2 l D cA st ad sz => Met.weaken (fun _ _ _ _ hp => hp.mono h) (hc h1 h2 l D cA st ad sz)
