/-! blocks of cells -/
def BlkAt (AH : xH) (b : Nat) (cs : List xE) : Prop := ∀ i e, cs[i]? = some e → AH[b + i]? = some e
def blkP (AH : xH) (b : Nat) (cs : List xE) : xH := AH.take b ++ (cs ++ AH.drop (b + cs.length))
section BLK
variable {AH : xH} {b : Nat} {cs cs' : List xE}
theorem BlkAt.len (h : BlkAt AH b cs) (h0 : 0 < cs.length) : b + cs.length ≤ AH.length := by
  have h1 := h (cs.length - 1) cs[cs.length - 1] (List.getElem?_eq_getElem (by omega))
  have := (List.getElem?_eq_some_iff.mp h1).1
  omega
theorem blk_get (hl : b + cs.length ≤ AH.length) (j : Nat) : (blkP AH b cs)[j]? = if b ≤ j ∧ j < b + cs.length then cs[j - b]? else AH[j]? := by
  unfold blkP
  have ht : (AH.take b).length = b := by rw [List.length_take]; omega
  by_cases h1 : j < b
  · rw [List.getElem?_append_left (by omega), if_neg (by omega), List.getElem?_take, if_pos h1]
  · rw [List.getElem?_append_right (by omega), ht]
    by_cases h2 : j < b + cs.length
    · rw [List.getElem?_append_left (by omega), if_pos (by omega)]
    · rw [List.getElem?_append_right (by omega), if_neg (by omega), List.getElem?_drop]
      congr 1
      omega
theorem blk_len (hl : b + cs.length ≤ AH.length) : (blkP AH b cs).length = AH.length := by
  unfold blkP
  rw [List.length_append, List.length_append, List.length_take, List.length_drop]
  omega
theorem BlkAt.put (hl : b + cs.length ≤ AH.length) : BlkAt (blkP AH b cs) b cs := fun i e hi => by
  have := (List.getElem?_eq_some_iff.mp hi).1
  rw [blk_get hl, if_pos (by omega), Nat.add_sub_cancel_left]
  exact hi
theorem blk_self (h : BlkAt AH b cs) (h0 : 0 < cs.length) : blkP AH b cs = AH := by
  apply List.ext_getElem?
  intro j
  rw [blk_get (h.len h0)]
  split
  · rename_i g
    have h1 := h (j - b) cs[j - b] (List.getElem?_eq_getElem (by omega))
    rw [show b + (j - b) = j by omega] at h1
    rw [h1]
    exact List.getElem?_eq_getElem (by omega)
  · rfl
theorem blk_blk (hl : b + cs.length ≤ AH.length) (he : cs'.length = cs.length) : blkP (blkP AH b cs) b cs' = blkP AH b cs' := by
  apply List.ext_getElem?
  intro j
  rw [blk_get (by rw [blk_len hl, he]; exact hl), blk_get hl, blk_get (by rw [he]; exact hl), he]
  split <;> rfl
theorem blk_set (h : BlkAt AH b cs) {i : Nat} {e : xE} (hi : i < cs.length) : AH.set (b + i) e = blkP AH b (cs.set i e) := by
  have hl := h.len (by omega)
  apply List.ext_getElem?
  intro j
  rw [blk_get (by rw [List.length_set]; exact hl), List.getElem?_set, List.length_set, List.getElem?_set]
  by_cases e1 : b + i = j
  · subst e1
    rw [if_pos rfl, if_pos (by omega), if_pos (by omega), if_pos (by omega), if_pos hi]
  · rw [if_neg e1]
    split
    · rename_i g
      rw [if_neg (by omega)]
      have h1 := h (j - b) cs[j - b] (List.getElem?_eq_getElem (by omega))
      rw [show b + (j - b) = j by omega] at h1
      rw [h1]
      exact (List.getElem?_eq_getElem (by omega)).symm
    · rfl
theorem BlkAt.fr {b2 : Nat} {cs2 : List xE} (hl : b + cs.length ≤ AH.length) (h2 : BlkAt AH b2 cs2) (sep : b2 + cs2.length ≤ b ∨ b + cs.length ≤ b2) : BlkAt (blkP AH b cs) b2 cs2 := fun i e hi => by
  have := (List.getElem?_eq_some_iff.mp hi).1
  rw [blk_get hl, if_neg (by omega)]
  exact h2 i e hi
end BLK
/-! the reference's object -/
def sMod : Type := (Nat → Int32) × (Nat → Int32) × (Nat → Int32) × Int32 × (Nat → Int32) × Int32 × (Nat → Int64) × (Nat → Int32) × (Nat → Int32) × Int32 × (Nat → Int32) × (Nat → Int32) × (Nat → Int32) × (Nat → Int32) × (Nat → Int32) × (Nat → Int32) × Int32 × (Nat → Int32) × (Nat → Int32) × Int32
theorem xlald_of {AH : xH} {a n c : Nat} {f : Nat → Int64} {K : Int64 → Prop} (h : AH[a]? = some (cL n f)) (hc : c < n) (hn : n < 2 ^ 31) : xlald AH a (nI c) K = K (f c) := by
  unfold xlald
  rw [h]
  have := vp_in_nI hc hn
  simp only [this, true_and, nI_clamp (Nat.lt_trans hc hn)]
theorem xlast_of {AH : xH} {a n c : Nat} {f : Nat → Int64} {v : Int64} {K : xH → Prop} (h : AH[a]? = some (cL n f)) (hc : c < n) (hn : n < 2 ^ 31) : xlast AH a (nI c) v K = K (AH.set a (cL n (vp_updL f c v))) := by
  unfold xlast
  rw [h]
  have := vp_in_nI hc hn
  simp only [this, true_and, nI_clamp (Nat.lt_trans hc hn)]
def sMod.nw (s : sMod) : Nat → Int32 := s.1
def sMod.kp (s : sMod) : Nat → Int32 := s.2.1
def sMod.im (s : sMod) : Nat → Int32 := s.2.2.1
def sMod.hI (s : sMod) : Int32 := s.2.2.2.1
def sMod.tx (s : sMod) : Nat → Int32 := s.2.2.2.2.1
def sMod.wr (s : sMod) : Int32 := s.2.2.2.2.2.1
def sMod.it (s : sMod) : Nat → Int64 := s.2.2.2.2.2.2.1
def sMod.so (s : sMod) : Nat → Int32 := s.2.2.2.2.2.2.2.1
def sMod.sz (s : sMod) : Nat → Int32 := s.2.2.2.2.2.2.2.2.1
def sMod.at (s : sMod) : Int32 := s.2.2.2.2.2.2.2.2.2.1
def sMod.le (s : sMod) : Nat → Int32 := s.2.2.2.2.2.2.2.2.2.2.1
def sMod.nb (s : sMod) : Nat → Int32 := s.2.2.2.2.2.2.2.2.2.2.2.1
def sMod.go (s : sMod) : Nat → Int32 := s.2.2.2.2.2.2.2.2.2.2.2.2.1
def sMod.gf (s : sMod) : Nat → Int32 := s.2.2.2.2.2.2.2.2.2.2.2.2.2.1
def sMod.gs (s : sMod) : Nat → Int32 := s.2.2.2.2.2.2.2.2.2.2.2.2.2.2.1
def sMod.hp (s : sMod) : Nat → Int32 := s.2.2.2.2.2.2.2.2.2.2.2.2.2.2.2.1
def sMod.gr (s : sMod) : Int32 := s.2.2.2.2.2.2.2.2.2.2.2.2.2.2.2.2.1
def sMod.fo (s : sMod) : Nat → Int32 := s.2.2.2.2.2.2.2.2.2.2.2.2.2.2.2.2.2.1
def sMod.fa (s : sMod) : Nat → Int32 := s.2.2.2.2.2.2.2.2.2.2.2.2.2.2.2.2.2.2.1
def sMod.by (s : sMod) : Int32 := s.2.2.2.2.2.2.2.2.2.2.2.2.2.2.2.2.2.2.2
def sMod.wnw (s : sMod) (v : Nat → Int32) : sMod := (v, s.kp, s.im, s.hI, s.tx, s.wr, s.it, s.so, s.sz, s.at, s.le, s.nb, s.go, s.gf, s.gs, s.hp, s.gr, s.fo, s.fa, s.by)
def sMod.wkp (s : sMod) (v : Nat → Int32) : sMod := (s.nw, v, s.im, s.hI, s.tx, s.wr, s.it, s.so, s.sz, s.at, s.le, s.nb, s.go, s.gf, s.gs, s.hp, s.gr, s.fo, s.fa, s.by)
def sMod.wim (s : sMod) (v : Nat → Int32) : sMod := (s.nw, s.kp, v, s.hI, s.tx, s.wr, s.it, s.so, s.sz, s.at, s.le, s.nb, s.go, s.gf, s.gs, s.hp, s.gr, s.fo, s.fa, s.by)
def sMod.whI (s : sMod) (v : Int32) : sMod := (s.nw, s.kp, s.im, v, s.tx, s.wr, s.it, s.so, s.sz, s.at, s.le, s.nb, s.go, s.gf, s.gs, s.hp, s.gr, s.fo, s.fa, s.by)
def sMod.wtx (s : sMod) (v : Nat → Int32) : sMod := (s.nw, s.kp, s.im, s.hI, v, s.wr, s.it, s.so, s.sz, s.at, s.le, s.nb, s.go, s.gf, s.gs, s.hp, s.gr, s.fo, s.fa, s.by)
def sMod.wwr (s : sMod) (v : Int32) : sMod := (s.nw, s.kp, s.im, s.hI, s.tx, v, s.it, s.so, s.sz, s.at, s.le, s.nb, s.go, s.gf, s.gs, s.hp, s.gr, s.fo, s.fa, s.by)
def sMod.wit (s : sMod) (v : Nat → Int64) : sMod := (s.nw, s.kp, s.im, s.hI, s.tx, s.wr, v, s.so, s.sz, s.at, s.le, s.nb, s.go, s.gf, s.gs, s.hp, s.gr, s.fo, s.fa, s.by)
def sMod.wso (s : sMod) (v : Nat → Int32) : sMod := (s.nw, s.kp, s.im, s.hI, s.tx, s.wr, s.it, v, s.sz, s.at, s.le, s.nb, s.go, s.gf, s.gs, s.hp, s.gr, s.fo, s.fa, s.by)
def sMod.wsz (s : sMod) (v : Nat → Int32) : sMod := (s.nw, s.kp, s.im, s.hI, s.tx, s.wr, s.it, s.so, v, s.at, s.le, s.nb, s.go, s.gf, s.gs, s.hp, s.gr, s.fo, s.fa, s.by)
def sMod.wat (s : sMod) (v : Int32) : sMod := (s.nw, s.kp, s.im, s.hI, s.tx, s.wr, s.it, s.so, s.sz, v, s.le, s.nb, s.go, s.gf, s.gs, s.hp, s.gr, s.fo, s.fa, s.by)
def sMod.wle (s : sMod) (v : Nat → Int32) : sMod := (s.nw, s.kp, s.im, s.hI, s.tx, s.wr, s.it, s.so, s.sz, s.at, v, s.nb, s.go, s.gf, s.gs, s.hp, s.gr, s.fo, s.fa, s.by)
def sMod.wnb (s : sMod) (v : Nat → Int32) : sMod := (s.nw, s.kp, s.im, s.hI, s.tx, s.wr, s.it, s.so, s.sz, s.at, s.le, v, s.go, s.gf, s.gs, s.hp, s.gr, s.fo, s.fa, s.by)
def sMod.wgo (s : sMod) (v : Nat → Int32) : sMod := (s.nw, s.kp, s.im, s.hI, s.tx, s.wr, s.it, s.so, s.sz, s.at, s.le, s.nb, v, s.gf, s.gs, s.hp, s.gr, s.fo, s.fa, s.by)
def sMod.wgf (s : sMod) (v : Nat → Int32) : sMod := (s.nw, s.kp, s.im, s.hI, s.tx, s.wr, s.it, s.so, s.sz, s.at, s.le, s.nb, s.go, v, s.gs, s.hp, s.gr, s.fo, s.fa, s.by)
def sMod.wgs (s : sMod) (v : Nat → Int32) : sMod := (s.nw, s.kp, s.im, s.hI, s.tx, s.wr, s.it, s.so, s.sz, s.at, s.le, s.nb, s.go, s.gf, v, s.hp, s.gr, s.fo, s.fa, s.by)
def sMod.whp (s : sMod) (v : Nat → Int32) : sMod := (s.nw, s.kp, s.im, s.hI, s.tx, s.wr, s.it, s.so, s.sz, s.at, s.le, s.nb, s.go, s.gf, s.gs, v, s.gr, s.fo, s.fa, s.by)
def sMod.wgr (s : sMod) (v : Int32) : sMod := (s.nw, s.kp, s.im, s.hI, s.tx, s.wr, s.it, s.so, s.sz, s.at, s.le, s.nb, s.go, s.gf, s.gs, s.hp, v, s.fo, s.fa, s.by)
def sMod.wfo (s : sMod) (v : Nat → Int32) : sMod := (s.nw, s.kp, s.im, s.hI, s.tx, s.wr, s.it, s.so, s.sz, s.at, s.le, s.nb, s.go, s.gf, s.gs, s.hp, s.gr, v, s.fa, s.by)
def sMod.wfa (s : sMod) (v : Nat → Int32) : sMod := (s.nw, s.kp, s.im, s.hI, s.tx, s.wr, s.it, s.so, s.sz, s.at, s.le, s.nb, s.go, s.gf, s.gs, s.hp, s.gr, s.fo, v, s.by)
def sMod.wby (s : sMod) (v : Int32) : sMod := (s.nw, s.kp, s.im, s.hI, s.tx, s.wr, s.it, s.so, s.sz, s.at, s.le, s.nb, s.go, s.gf, s.gs, s.hp, s.gr, s.fo, s.fa, v)
def modC (m : Nat) (s : sMod) : List xE := [.inr (7, [.ref (m + 1), .ref (m + 2), .ref (m + 3), .int s.hI, .ref (m + 4), .int s.wr, .ref (m + 5), .ref (m + 6), .ref (m + 7), .int s.at, .ref (m + 8), .ref (m + 9), .ref (m + 10), .ref (m + 11), .ref (m + 12), .ref (m + 13), .int s.gr, .ref (m + 14), .ref (m + 15), .int s.by]), cI 113 s.nw, cI 113 s.kp, cI 113 s.im, cI 100 s.tx, cL 360 s.it, cI 6 s.so, cI 6 s.sz, cI 12 s.le, cI 36 s.nb, cI 36 s.go, cI 36 s.gf, cI 36 s.gs, cI 36 s.hp, cI 4 s.fo, cI 36 s.fa]
def ModAt (AH : xH) (m : Nat) (s : sMod) : Prop := BlkAt AH m (modC m s)
def modP (AH : xH) (m : Nat) (s : sMod) : xH := blkP AH m (modC m s)
section MOD
variable {AH : xH} {m : Nat} {s : sMod}
theorem ModAt.lt (h : ModAt AH m s) : m + 16 ≤ AH.length := BlkAt.len h (by show 0 < 16; decide)
theorem ModAt.put (h : ModAt AH m s) (s2 : sMod) : ModAt (modP AH m s2) m s2 := BlkAt.put h.lt
theorem modP_self (h : ModAt AH m s) : modP AH m s = AH := blk_self h (by show 0 < 16; decide)
theorem modP_modP (hl : m + 16 ≤ AH.length) {s2 : sMod} : modP (modP AH m s) m s2 = modP AH m s2 := blk_blk hl rfl
theorem ModAt.cls (h : ModAt AH m s) : xcls AH m 7 = True := xcls_of (h 0 _ rfl)
theorem ModAt.g0 (h : ModAt AH m s) {K : Value → Prop} : xgf AH m 7 0 K = K (.ref (m + 1)) := xgf_of (h 0 _ rfl) rfl
theorem ModAt.g1 (h : ModAt AH m s) {K : Value → Prop} : xgf AH m 7 1 K = K (.ref (m + 2)) := xgf_of (h 0 _ rfl) rfl
theorem ModAt.g2 (h : ModAt AH m s) {K : Value → Prop} : xgf AH m 7 2 K = K (.ref (m + 3)) := xgf_of (h 0 _ rfl) rfl
theorem ModAt.g3 (h : ModAt AH m s) {K : Value → Prop} : xgf AH m 7 3 K = K (.int s.hI) := xgf_of (h 0 _ rfl) rfl
theorem ModAt.g4 (h : ModAt AH m s) {K : Value → Prop} : xgf AH m 7 4 K = K (.ref (m + 4)) := xgf_of (h 0 _ rfl) rfl
theorem ModAt.g5 (h : ModAt AH m s) {K : Value → Prop} : xgf AH m 7 5 K = K (.int s.wr) := xgf_of (h 0 _ rfl) rfl
theorem ModAt.g6 (h : ModAt AH m s) {K : Value → Prop} : xgf AH m 7 6 K = K (.ref (m + 5)) := xgf_of (h 0 _ rfl) rfl
theorem ModAt.g7 (h : ModAt AH m s) {K : Value → Prop} : xgf AH m 7 7 K = K (.ref (m + 6)) := xgf_of (h 0 _ rfl) rfl
theorem ModAt.g8 (h : ModAt AH m s) {K : Value → Prop} : xgf AH m 7 8 K = K (.ref (m + 7)) := xgf_of (h 0 _ rfl) rfl
theorem ModAt.g9 (h : ModAt AH m s) {K : Value → Prop} : xgf AH m 7 9 K = K (.int s.at) := xgf_of (h 0 _ rfl) rfl
theorem ModAt.g10 (h : ModAt AH m s) {K : Value → Prop} : xgf AH m 7 10 K = K (.ref (m + 8)) := xgf_of (h 0 _ rfl) rfl
theorem ModAt.g11 (h : ModAt AH m s) {K : Value → Prop} : xgf AH m 7 11 K = K (.ref (m + 9)) := xgf_of (h 0 _ rfl) rfl
theorem ModAt.g12 (h : ModAt AH m s) {K : Value → Prop} : xgf AH m 7 12 K = K (.ref (m + 10)) := xgf_of (h 0 _ rfl) rfl
theorem ModAt.g13 (h : ModAt AH m s) {K : Value → Prop} : xgf AH m 7 13 K = K (.ref (m + 11)) := xgf_of (h 0 _ rfl) rfl
theorem ModAt.g14 (h : ModAt AH m s) {K : Value → Prop} : xgf AH m 7 14 K = K (.ref (m + 12)) := xgf_of (h 0 _ rfl) rfl
theorem ModAt.g15 (h : ModAt AH m s) {K : Value → Prop} : xgf AH m 7 15 K = K (.ref (m + 13)) := xgf_of (h 0 _ rfl) rfl
theorem ModAt.g16 (h : ModAt AH m s) {K : Value → Prop} : xgf AH m 7 16 K = K (.int s.gr) := xgf_of (h 0 _ rfl) rfl
theorem ModAt.g17 (h : ModAt AH m s) {K : Value → Prop} : xgf AH m 7 17 K = K (.ref (m + 14)) := xgf_of (h 0 _ rfl) rfl
theorem ModAt.g18 (h : ModAt AH m s) {K : Value → Prop} : xgf AH m 7 18 K = K (.ref (m + 15)) := xgf_of (h 0 _ rfl) rfl
theorem ModAt.g19 (h : ModAt AH m s) {K : Value → Prop} : xgf AH m 7 19 K = K (.int s.by) := xgf_of (h 0 _ rfl) rfl
theorem ModAt.r_nw (h : ModAt AH m s) {c : Nat} (hc : c < 113) {K : Int32 → Prop} : xald AH (m + 1) (nI c) K = K (s.nw c) := xald_of (h 1 _ rfl) hc (by decide)
theorem ModAt.w_nw (h : ModAt AH m s) {c : Nat} {v : Int32} (hc : c < 113) {K : xH → Prop} : xast AH (m + 1) (nI c) v K = K (modP AH m (s.wnw (upd s.nw c v))) := by
  rw [xast_of (h 1 _ rfl) hc (by decide)]
  exact congrArg K (blk_set h (by show 1 < 16; decide))
theorem ModAt.a_nw (h : ModAt AH m s) {f : Nat → Int32} : AH.set (m + 1) (cI 113 f) = modP AH m (s.wnw f) := blk_set h (by show 1 < 16; decide)
theorem ModAt.r_kp (h : ModAt AH m s) {c : Nat} (hc : c < 113) {K : Int32 → Prop} : xald AH (m + 2) (nI c) K = K (s.kp c) := xald_of (h 2 _ rfl) hc (by decide)
theorem ModAt.w_kp (h : ModAt AH m s) {c : Nat} {v : Int32} (hc : c < 113) {K : xH → Prop} : xast AH (m + 2) (nI c) v K = K (modP AH m (s.wkp (upd s.kp c v))) := by
  rw [xast_of (h 2 _ rfl) hc (by decide)]
  exact congrArg K (blk_set h (by show 2 < 16; decide))
theorem ModAt.a_kp (h : ModAt AH m s) {f : Nat → Int32} : AH.set (m + 2) (cI 113 f) = modP AH m (s.wkp f) := blk_set h (by show 2 < 16; decide)
theorem ModAt.r_im (h : ModAt AH m s) {c : Nat} (hc : c < 113) {K : Int32 → Prop} : xald AH (m + 3) (nI c) K = K (s.im c) := xald_of (h 3 _ rfl) hc (by decide)
theorem ModAt.w_im (h : ModAt AH m s) {c : Nat} {v : Int32} (hc : c < 113) {K : xH → Prop} : xast AH (m + 3) (nI c) v K = K (modP AH m (s.wim (upd s.im c v))) := by
  rw [xast_of (h 3 _ rfl) hc (by decide)]
  exact congrArg K (blk_set h (by show 3 < 16; decide))
theorem ModAt.a_im (h : ModAt AH m s) {f : Nat → Int32} : AH.set (m + 3) (cI 113 f) = modP AH m (s.wim f) := blk_set h (by show 3 < 16; decide)
theorem ModAt.r_tx (h : ModAt AH m s) {c : Nat} (hc : c < 100) {K : Int32 → Prop} : xald AH (m + 4) (nI c) K = K (s.tx c) := xald_of (h 4 _ rfl) hc (by decide)
theorem ModAt.w_tx (h : ModAt AH m s) {c : Nat} {v : Int32} (hc : c < 100) {K : xH → Prop} : xast AH (m + 4) (nI c) v K = K (modP AH m (s.wtx (upd s.tx c v))) := by
  rw [xast_of (h 4 _ rfl) hc (by decide)]
  exact congrArg K (blk_set h (by show 4 < 16; decide))
theorem ModAt.a_tx (h : ModAt AH m s) {f : Nat → Int32} : AH.set (m + 4) (cI 100 f) = modP AH m (s.wtx f) := blk_set h (by show 4 < 16; decide)
theorem ModAt.r_it (h : ModAt AH m s) {c : Nat} (hc : c < 360) {K : Int64 → Prop} : xlald AH (m + 5) (nI c) K = K (s.it c) := xlald_of (h 5 _ rfl) hc (by decide)
theorem ModAt.w_it (h : ModAt AH m s) {c : Nat} {v : Int64} (hc : c < 360) {K : xH → Prop} : xlast AH (m + 5) (nI c) v K = K (modP AH m (s.wit (vp_updL s.it c v))) := by
  rw [xlast_of (h 5 _ rfl) hc (by decide)]
  exact congrArg K (blk_set h (by show 5 < 16; decide))
theorem ModAt.a_it (h : ModAt AH m s) {f : Nat → Int64} : AH.set (m + 5) (cL 360 f) = modP AH m (s.wit f) := blk_set h (by show 5 < 16; decide)
theorem ModAt.r_so (h : ModAt AH m s) {c : Nat} (hc : c < 6) {K : Int32 → Prop} : xald AH (m + 6) (nI c) K = K (s.so c) := xald_of (h 6 _ rfl) hc (by decide)
theorem ModAt.w_so (h : ModAt AH m s) {c : Nat} {v : Int32} (hc : c < 6) {K : xH → Prop} : xast AH (m + 6) (nI c) v K = K (modP AH m (s.wso (upd s.so c v))) := by
  rw [xast_of (h 6 _ rfl) hc (by decide)]
  exact congrArg K (blk_set h (by show 6 < 16; decide))
theorem ModAt.a_so (h : ModAt AH m s) {f : Nat → Int32} : AH.set (m + 6) (cI 6 f) = modP AH m (s.wso f) := blk_set h (by show 6 < 16; decide)
theorem ModAt.r_sz (h : ModAt AH m s) {c : Nat} (hc : c < 6) {K : Int32 → Prop} : xald AH (m + 7) (nI c) K = K (s.sz c) := xald_of (h 7 _ rfl) hc (by decide)
theorem ModAt.w_sz (h : ModAt AH m s) {c : Nat} {v : Int32} (hc : c < 6) {K : xH → Prop} : xast AH (m + 7) (nI c) v K = K (modP AH m (s.wsz (upd s.sz c v))) := by
  rw [xast_of (h 7 _ rfl) hc (by decide)]
  exact congrArg K (blk_set h (by show 7 < 16; decide))
theorem ModAt.a_sz (h : ModAt AH m s) {f : Nat → Int32} : AH.set (m + 7) (cI 6 f) = modP AH m (s.wsz f) := blk_set h (by show 7 < 16; decide)
theorem ModAt.r_le (h : ModAt AH m s) {c : Nat} (hc : c < 12) {K : Int32 → Prop} : xald AH (m + 8) (nI c) K = K (s.le c) := xald_of (h 8 _ rfl) hc (by decide)
theorem ModAt.w_le (h : ModAt AH m s) {c : Nat} {v : Int32} (hc : c < 12) {K : xH → Prop} : xast AH (m + 8) (nI c) v K = K (modP AH m (s.wle (upd s.le c v))) := by
  rw [xast_of (h 8 _ rfl) hc (by decide)]
  exact congrArg K (blk_set h (by show 8 < 16; decide))
theorem ModAt.a_le (h : ModAt AH m s) {f : Nat → Int32} : AH.set (m + 8) (cI 12 f) = modP AH m (s.wle f) := blk_set h (by show 8 < 16; decide)
theorem ModAt.r_nb (h : ModAt AH m s) {c : Nat} (hc : c < 36) {K : Int32 → Prop} : xald AH (m + 9) (nI c) K = K (s.nb c) := xald_of (h 9 _ rfl) hc (by decide)
theorem ModAt.w_nb (h : ModAt AH m s) {c : Nat} {v : Int32} (hc : c < 36) {K : xH → Prop} : xast AH (m + 9) (nI c) v K = K (modP AH m (s.wnb (upd s.nb c v))) := by
  rw [xast_of (h 9 _ rfl) hc (by decide)]
  exact congrArg K (blk_set h (by show 9 < 16; decide))
theorem ModAt.a_nb (h : ModAt AH m s) {f : Nat → Int32} : AH.set (m + 9) (cI 36 f) = modP AH m (s.wnb f) := blk_set h (by show 9 < 16; decide)
theorem ModAt.r_go (h : ModAt AH m s) {c : Nat} (hc : c < 36) {K : Int32 → Prop} : xald AH (m + 10) (nI c) K = K (s.go c) := xald_of (h 10 _ rfl) hc (by decide)
theorem ModAt.w_go (h : ModAt AH m s) {c : Nat} {v : Int32} (hc : c < 36) {K : xH → Prop} : xast AH (m + 10) (nI c) v K = K (modP AH m (s.wgo (upd s.go c v))) := by
  rw [xast_of (h 10 _ rfl) hc (by decide)]
  exact congrArg K (blk_set h (by show 10 < 16; decide))
theorem ModAt.a_go (h : ModAt AH m s) {f : Nat → Int32} : AH.set (m + 10) (cI 36 f) = modP AH m (s.wgo f) := blk_set h (by show 10 < 16; decide)
theorem ModAt.r_gf (h : ModAt AH m s) {c : Nat} (hc : c < 36) {K : Int32 → Prop} : xald AH (m + 11) (nI c) K = K (s.gf c) := xald_of (h 11 _ rfl) hc (by decide)
theorem ModAt.w_gf (h : ModAt AH m s) {c : Nat} {v : Int32} (hc : c < 36) {K : xH → Prop} : xast AH (m + 11) (nI c) v K = K (modP AH m (s.wgf (upd s.gf c v))) := by
  rw [xast_of (h 11 _ rfl) hc (by decide)]
  exact congrArg K (blk_set h (by show 11 < 16; decide))
theorem ModAt.a_gf (h : ModAt AH m s) {f : Nat → Int32} : AH.set (m + 11) (cI 36 f) = modP AH m (s.wgf f) := blk_set h (by show 11 < 16; decide)
theorem ModAt.r_gs (h : ModAt AH m s) {c : Nat} (hc : c < 36) {K : Int32 → Prop} : xald AH (m + 12) (nI c) K = K (s.gs c) := xald_of (h 12 _ rfl) hc (by decide)
theorem ModAt.w_gs (h : ModAt AH m s) {c : Nat} {v : Int32} (hc : c < 36) {K : xH → Prop} : xast AH (m + 12) (nI c) v K = K (modP AH m (s.wgs (upd s.gs c v))) := by
  rw [xast_of (h 12 _ rfl) hc (by decide)]
  exact congrArg K (blk_set h (by show 12 < 16; decide))
theorem ModAt.a_gs (h : ModAt AH m s) {f : Nat → Int32} : AH.set (m + 12) (cI 36 f) = modP AH m (s.wgs f) := blk_set h (by show 12 < 16; decide)
theorem ModAt.r_hp (h : ModAt AH m s) {c : Nat} (hc : c < 36) {K : Int32 → Prop} : xald AH (m + 13) (nI c) K = K (s.hp c) := xald_of (h 13 _ rfl) hc (by decide)
theorem ModAt.w_hp (h : ModAt AH m s) {c : Nat} {v : Int32} (hc : c < 36) {K : xH → Prop} : xast AH (m + 13) (nI c) v K = K (modP AH m (s.whp (upd s.hp c v))) := by
  rw [xast_of (h 13 _ rfl) hc (by decide)]
  exact congrArg K (blk_set h (by show 13 < 16; decide))
theorem ModAt.a_hp (h : ModAt AH m s) {f : Nat → Int32} : AH.set (m + 13) (cI 36 f) = modP AH m (s.whp f) := blk_set h (by show 13 < 16; decide)
theorem ModAt.r_fo (h : ModAt AH m s) {c : Nat} (hc : c < 4) {K : Int32 → Prop} : xald AH (m + 14) (nI c) K = K (s.fo c) := xald_of (h 14 _ rfl) hc (by decide)
theorem ModAt.w_fo (h : ModAt AH m s) {c : Nat} {v : Int32} (hc : c < 4) {K : xH → Prop} : xast AH (m + 14) (nI c) v K = K (modP AH m (s.wfo (upd s.fo c v))) := by
  rw [xast_of (h 14 _ rfl) hc (by decide)]
  exact congrArg K (blk_set h (by show 14 < 16; decide))
theorem ModAt.a_fo (h : ModAt AH m s) {f : Nat → Int32} : AH.set (m + 14) (cI 4 f) = modP AH m (s.wfo f) := blk_set h (by show 14 < 16; decide)
theorem ModAt.r_fa (h : ModAt AH m s) {c : Nat} (hc : c < 36) {K : Int32 → Prop} : xald AH (m + 15) (nI c) K = K (s.fa c) := xald_of (h 15 _ rfl) hc (by decide)
theorem ModAt.w_fa (h : ModAt AH m s) {c : Nat} {v : Int32} (hc : c < 36) {K : xH → Prop} : xast AH (m + 15) (nI c) v K = K (modP AH m (s.wfa (upd s.fa c v))) := by
  rw [xast_of (h 15 _ rfl) hc (by decide)]
  exact congrArg K (blk_set h (by show 15 < 16; decide))
theorem ModAt.a_fa (h : ModAt AH m s) {f : Nat → Int32} : AH.set (m + 15) (cI 36 f) = modP AH m (s.wfa f) := blk_set h (by show 15 < 16; decide)
theorem ModAt.p_hI (h : ModAt AH m s) {v : Int32} {K : xH → Prop} : xpf AH m 7 3 (.int v) K = K (modP AH m (s.whI v)) := by
  rw [xpf_of (a := m) (fs := _) (h 0 _ rfl) (by show 3 < 20; decide)]
  exact congrArg K (blk_set (i := 0) h (by show 0 < 16; decide))
theorem ModAt.p_wr (h : ModAt AH m s) {v : Int32} {K : xH → Prop} : xpf AH m 7 5 (.int v) K = K (modP AH m (s.wwr v)) := by
  rw [xpf_of (a := m) (fs := _) (h 0 _ rfl) (by show 5 < 20; decide)]
  exact congrArg K (blk_set (i := 0) h (by show 0 < 16; decide))
theorem ModAt.p_at (h : ModAt AH m s) {v : Int32} {K : xH → Prop} : xpf AH m 7 9 (.int v) K = K (modP AH m (s.wat v)) := by
  rw [xpf_of (a := m) (fs := _) (h 0 _ rfl) (by show 9 < 20; decide)]
  exact congrArg K (blk_set (i := 0) h (by show 0 < 16; decide))
theorem ModAt.p_gr (h : ModAt AH m s) {v : Int32} {K : xH → Prop} : xpf AH m 7 16 (.int v) K = K (modP AH m (s.wgr v)) := by
  rw [xpf_of (a := m) (fs := _) (h 0 _ rfl) (by show 16 < 20; decide)]
  exact congrArg K (blk_set (i := 0) h (by show 0 < 16; decide))
theorem ModAt.p_by (h : ModAt AH m s) {v : Int32} {K : xH → Prop} : xpf AH m 7 19 (.int v) K = K (modP AH m (s.wby v)) := by
  rw [xpf_of (a := m) (fs := _) (h 0 _ rfl) (by show 19 < 20; decide)]
  exact congrArg K (blk_set (i := 0) h (by show 0 < 16; decide))
end MOD
