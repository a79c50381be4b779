/-- a contract out of a walk -/
theorem XC.ofWF {M : xM} {args : List Value} {AH : xH} {Q : Option Value → xH → Prop} {L : xL} (hy : plainFor M.1 = true) (hlen : (xargs args).length ≤ M.2.2.1) (hL : xargs args ++ List.replicate (M.2.2.1 - (xargs args).length) none = L)
    (h : XW none M 0 L [] AH (0, 0) (fun v AH' _ => Q v AH')) : XC M args AH Q := by
  intro hva hvH l D cA st ad sz
  refine va_MetF (cc := M.2.1) (maxL := M.2.2.1) (ret := M.2.2.2.1) hy rfl ?_
  intro p e s m ar below meth c s₁ B hml hv
  obtain ⟨rfl, hsz, hP, hD0, hU, hSt⟩ := hv
  have hx := B.exec
  have hb := B.bytes
  have hr := B.returns
  have hts := atoms_spec (ws := xWs M) B.pre
  have hown : s.vm.findClass M.1.cls = some m.cls := findClass_of_methodNamed B.named
  have hlocks := B.notSynchronized
  have hin : meth.name = M.1.name := (name_of_methodNamed B.named B.method).1
  subst hsz
  have hD := hD0.self (sz := s.heap.size)
  rw [lg_entry_eq]
  have hls := xLs_entry (ad := ad) (st := st) (vs := args) (n := M.2.2.1) hlen
  rw [hL] at hls
  have hS : va_S (va_A (xw ad st cA AH) s.heap.size) s.heap s.heap [] := va_S.rf
  refine h l p e s m _ below meth c D cA st (va_A (xw ad st cA AH) s.heap.size) _ AH.length ad ad _ s.heap [] ⟨hx, hb, hml, hown, fun w hw => hts w (List.mem_cons_of_mem _ hw), fun hi => hin.trans hi, hU, fun q hq => Or.inr hq, hSt, fun q hq => by cases hq⟩ ⟨hP, hD, hS, hvH, Nat.le_refl _, fun _ _ => rfl⟩ hls ⟨?_, fun v hv => by cases hv⟩ ⟨Nat.zero_le _, Nat.zero_le _⟩ ?_
  · intro v hv
    rw [← hL] at hv
    rcases List.mem_append.mp hv with hv | hv
    · exact hva v (xargs_mem hv)
    · simp at hv
  · intro v AH' ad' H' locs' c' pc' ls' hq hrt hh hvv hc hd
    obtain ⟨gP, gD, gS, gH, gn, ga⟩ := hh
    refine W.widen (k := M.2.2.2.2.cells) (n := M.2.2.2.2.slots) hc.1 hc.2 ?_
    have post : ∀ t : State, t.heap = H' → s.WarmedH t.vm → xPost D cA st ad (va_A (xw ad st cA AH) s.heap.size) AH.length Q (args.map (xv ad st)).toArray s (.returned (v.map (xv ad' st))) t := fun t ht hW =>
      ⟨⟨v, AH', ad', rfl, hq, by rw [ht]; exact gP, gD, gH, gn, ga, hvv⟩, gS.F ht⟩
    unfold xrt at hrt
    split at hrt
    · rename_i hret
      exact W.vret hx hb (hr.trans hret) post gS.2.2 hd
    · rename_i x hret
      exact W.iret hx hb (hr.trans hret) post gS.2.2 hd
    · rename_i x hret
      exact W.lret hx hb (hr.trans hret) post gS.2.2 hd
    · rename_i x hret
      exact W.zret hx hb (hr.trans hret) (by rcases hrt with rfl | rfl <;> rfl) post gS.2.2 hd
    · rename_i o x hret
      exact W.aret hx hb (hr.trans hret) (Or.inl ⟨_, rfl⟩) (Or.inr ⟨_, rfl⟩) post gS.2.2 hd
    · rename_i o hret
      exact W.aret hx hb (hr.trans hret) (Or.inl ⟨_, rfl⟩) (Or.inl rfl) post gS.2.2 hd
    · exact hrt.elim
theorem XC.ofRF {M : xM} {P : Nat → xOp} (hok : ∀ pc, xOK none M pc (P pc)) {args : List Value} {AH : xH} {Q : Option Value → xH → Prop} {L : xL} (hy : plainFor M.1 = true) (hlen : (xargs args).length ≤ M.2.2.1) (hL : xargs args ++ List.replicate (M.2.2.1 - (xargs args).length) none = L)
    (h : XR P 0 L [] AH (0, 0) (fun v AH' _ => Q v AH')) : XC M args AH Q := XC.ofWF hy hlen hL (XR.xw (fun pc => (hok pc).2) h)
