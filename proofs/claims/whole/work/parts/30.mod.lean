/-! what the reference's row of all numbers holds -/
def sRow : Type := (Nat → Int32) × Nat × (Nat → Int32) × Nat × (Nat → Int32) × Nat
def sRow.sn (r : sRow) : Nat → Int32 := r.1
def sRow.nS (r : sRow) : Nat := r.2.1
def sRow.ev (r : sRow) : Nat → Int32 := r.2.2.1
def sRow.nE (r : sRow) : Nat := r.2.2.2.1
def sRow.bk (r : sRow) : Nat → Int32 := r.2.2.2.2.1
def sRow.nB (r : sRow) : Nat := r.2.2.2.2.2
def nF (x : sLat) (r : sRow) (i : Nat) : Int32 :=
  if i = 0 then nI x.hi else if i = 1 then nI x.wi else if i = 2 then nI x.he else if i = 3 then nI x.ne else if i = 4 then nI x.ed else if i = 5 then nI x.ki else if i = 6 then nI x.nu else if i = 7 then x.se else if i = 8 then nI r.nS else if i = 9 then nI r.nE else if i = 10 then nI r.nB
  else if i < 47 then nI (x.mk (i - 11)) else if i < 83 then nI (x.pn (i - 47)) else if i < 89 then r.sn (i - 83) else if i < 105 then r.ev (i - 89) else if i < 113 then r.bk (i - 105) else 0
theorem nF_mk {x : sLat} {r : sRow} {c : Nat} (hc : c < 36) : nF x r (11 + c) = nI (x.mk c) := by
  unfold nF
  rw [if_neg (by omega), if_neg (by omega), if_neg (by omega), if_neg (by omega), if_neg (by omega), if_neg (by omega), if_neg (by omega), if_neg (by omega), if_neg (by omega), if_neg (by omega), if_neg (by omega), if_pos (by omega), Nat.add_sub_cancel_left]
theorem nF_pn {x : sLat} {r : sRow} {c : Nat} (hc : c < 36) : nF x r (47 + c) = nI (x.pn c) := by
  unfold nF
  rw [if_neg (by omega), if_neg (by omega), if_neg (by omega), if_neg (by omega), if_neg (by omega), if_neg (by omega), if_neg (by omega), if_neg (by omega), if_neg (by omega), if_neg (by omega), if_neg (by omega), if_neg (by omega), if_pos (by omega), Nat.add_sub_cancel_left]
theorem nF_sn {x : sLat} {r : sRow} {c : Nat} (hc : c < 6) : nF x r (83 + c) = r.sn c := by
  unfold nF
  rw [if_neg (by omega), if_neg (by omega), if_neg (by omega), if_neg (by omega), if_neg (by omega), if_neg (by omega), if_neg (by omega), if_neg (by omega), if_neg (by omega), if_neg (by omega), if_neg (by omega), if_neg (by omega), if_neg (by omega), if_pos (by omega), Nat.add_sub_cancel_left]
theorem nF_ev {x : sLat} {r : sRow} {c : Nat} (hc : c < 16) : nF x r (89 + c) = r.ev c := by
  unfold nF
  rw [if_neg (by omega), if_neg (by omega), if_neg (by omega), if_neg (by omega), if_neg (by omega), if_neg (by omega), if_neg (by omega), if_neg (by omega), if_neg (by omega), if_neg (by omega), if_neg (by omega), if_neg (by omega), if_neg (by omega), if_neg (by omega), if_pos (by omega), Nat.add_sub_cancel_left]
theorem nF_bk {x : sLat} {r : sRow} {c : Nat} (hc : c < 8) : nF x r (105 + c) = r.bk c := by
  unfold nF
  rw [if_neg (by omega), if_neg (by omega), if_neg (by omega), if_neg (by omega), if_neg (by omega), if_neg (by omega), if_neg (by omega), if_neg (by omega), if_neg (by omega), if_neg (by omega), if_neg (by omega), if_neg (by omega), if_neg (by omega), if_neg (by omega), if_neg (by omega), if_pos (by omega), Nat.add_sub_cancel_left]

theorem nF_ext {x y : sLat} {r q : sRow} {i : Nat} (h0 : y.hi = x.hi) (h1 : y.wi = x.wi) (h2 : y.he = x.he) (h3 : y.ne = x.ne) (h4 : y.ed = x.ed) (h5 : y.ki = x.ki) (h6 : y.nu = x.nu) (h7 : y.se = x.se) (h8 : q.nS = r.nS) (h9 : q.nE = r.nE) (h10 : q.nB = r.nB) (hm : 11 ≤ i → i < 47 → y.mk (i - 11) = x.mk (i - 11)) (hp : 47 ≤ i → i < 83 → y.pn (i - 47) = x.pn (i - 47)) (hs : 83 ≤ i → i < 89 → q.sn (i - 83) = r.sn (i - 83)) (he : 89 ≤ i → i < 105 → q.ev (i - 89) = r.ev (i - 89)) (hb : 105 ≤ i → i < 113 → q.bk (i - 105) = r.bk (i - 105)) : nF y q i = nF x r i := by
  unfold nF
  rw [h0, h1, h2, h3, h4, h5, h6, h7, h8, h9, h10]
  by_cases g0 : i = 0
  · rw [if_pos g0, if_pos g0]
  rw [if_neg g0, if_neg g0]
  by_cases g1 : i = 1
  · rw [if_pos g1, if_pos g1]
  rw [if_neg g1, if_neg g1]
  by_cases g2 : i = 2
  · rw [if_pos g2, if_pos g2]
  rw [if_neg g2, if_neg g2]
  by_cases g3 : i = 3
  · rw [if_pos g3, if_pos g3]
  rw [if_neg g3, if_neg g3]
  by_cases g4 : i = 4
  · rw [if_pos g4, if_pos g4]
  rw [if_neg g4, if_neg g4]
  by_cases g5 : i = 5
  · rw [if_pos g5, if_pos g5]
  rw [if_neg g5, if_neg g5]
  by_cases g6 : i = 6
  · rw [if_pos g6, if_pos g6]
  rw [if_neg g6, if_neg g6]
  by_cases g7 : i = 7
  · rw [if_pos g7, if_pos g7]
  rw [if_neg g7, if_neg g7]
  by_cases g8 : i = 8
  · rw [if_pos g8, if_pos g8]
  rw [if_neg g8, if_neg g8]
  by_cases g9 : i = 9
  · rw [if_pos g9, if_pos g9]
  rw [if_neg g9, if_neg g9]
  by_cases g10 : i = 10
  · rw [if_pos g10, if_pos g10]
  rw [if_neg g10, if_neg g10]
  by_cases k0 : i < 47
  · rw [if_pos k0, if_pos k0, hm (by omega) k0]
  rw [if_neg k0, if_neg k0]
  by_cases k1 : i < 83
  · rw [if_pos k1, if_pos k1, hp (by omega) k1]
  rw [if_neg k1, if_neg k1]
  by_cases k2 : i < 89
  · rw [if_pos k2, if_pos k2, hs (by omega) k2]
  rw [if_neg k2, if_neg k2]
  by_cases k3 : i < 105
  · rw [if_pos k3, if_pos k3, he (by omega) k3]
  rw [if_neg k3, if_neg k3]
  by_cases k4 : i < 113
  · rw [if_pos k4, if_pos k4, hb (by omega) k4]
  rw [if_neg k4, if_neg k4]
section NF
variable {x : sLat} {r : sRow}
theorem nF_u0 {v : Nat} : upd (nF x r) 0 (nI v) = nF (x.whi v) r := by
  funext i
  unfold upd
  by_cases h : i = 0
  · rw [if_pos h]; subst h; rfl
  · rw [if_neg h]
    unfold nF
    simp only [h, ↓reduceIte]
    rfl
theorem nF_u1 {v : Nat} : upd (nF x r) 1 (nI v) = nF (x.wwi v) r := by
  funext i
  unfold upd
  by_cases h : i = 1
  · rw [if_pos h]; subst h; rfl
  · rw [if_neg h]
    unfold nF
    simp only [h, ↓reduceIte]
    rfl
theorem nF_u2 {v : Nat} : upd (nF x r) 2 (nI v) = nF (x.whe v) r := by
  funext i
  unfold upd
  by_cases h : i = 2
  · rw [if_pos h]; subst h; rfl
  · rw [if_neg h]
    unfold nF
    simp only [h, ↓reduceIte]
    rfl
theorem nF_u3 {v : Nat} : upd (nF x r) 3 (nI v) = nF (x.wne v) r := by
  funext i
  unfold upd
  by_cases h : i = 3
  · rw [if_pos h]; subst h; rfl
  · rw [if_neg h]
    unfold nF
    simp only [h, ↓reduceIte]
    rfl
theorem nF_u4 {v : Nat} : upd (nF x r) 4 (nI v) = nF (x.wed v) r := by
  funext i
  unfold upd
  by_cases h : i = 4
  · rw [if_pos h]; subst h; rfl
  · rw [if_neg h]
    unfold nF
    simp only [h, ↓reduceIte]
    rfl
theorem nF_u5 {v : Nat} : upd (nF x r) 5 (nI v) = nF (x.wki v) r := by
  funext i
  unfold upd
  by_cases h : i = 5
  · rw [if_pos h]; subst h; rfl
  · rw [if_neg h]
    unfold nF
    simp only [h, ↓reduceIte]
    rfl
theorem nF_u6 {v : Nat} : upd (nF x r) 6 (nI v) = nF (x.wnu v) r := by
  funext i
  unfold upd
  by_cases h : i = 6
  · rw [if_pos h]; subst h; rfl
  · rw [if_neg h]
    unfold nF
    simp only [h, ↓reduceIte]
    rfl
theorem nF_u7 {v : Int32} : upd (nF x r) 7 (v) = nF (x.wse v) r := by
  funext i
  unfold upd
  by_cases h : i = 7
  · rw [if_pos h]; subst h; rfl
  · rw [if_neg h]
    unfold nF
    simp only [h, ↓reduceIte]
    rfl
def sRow.wnS (r : sRow) (v : Nat) : sRow := (r.sn, v, r.ev, r.nE, r.bk, r.nB)
theorem nF_u8 {v : Nat} : upd (nF x r) 8 (nI v) = nF x (r.wnS v) := by
  funext i
  unfold upd
  by_cases h : i = 8
  · rw [if_pos h]; subst h; rfl
  · rw [if_neg h]
    unfold nF
    simp only [h, ↓reduceIte]
    rfl
def sRow.wnE (r : sRow) (v : Nat) : sRow := (r.sn, r.nS, r.ev, v, r.bk, r.nB)
theorem nF_u9 {v : Nat} : upd (nF x r) 9 (nI v) = nF x (r.wnE v) := by
  funext i
  unfold upd
  by_cases h : i = 9
  · rw [if_pos h]; subst h; rfl
  · rw [if_neg h]
    unfold nF
    simp only [h, ↓reduceIte]
    rfl
def sRow.wnB (r : sRow) (v : Nat) : sRow := (r.sn, r.nS, r.ev, r.nE, r.bk, v)
theorem nF_u10 {v : Nat} : upd (nF x r) 10 (nI v) = nF x (r.wnB v) := by
  funext i
  unfold upd
  by_cases h : i = 10
  · rw [if_pos h]; subst h; rfl
  · rw [if_neg h]
    unfold nF
    simp only [h, ↓reduceIte]
    rfl
theorem nF_um {c v : Nat} (hc : c < 36) : upd (nF x r) (11 + c) (nI v) = nF (x.wmk c v) r := by
  funext i
  unfold upd
  by_cases h : i = 11 + c
  · rw [if_pos h]
    subst h
    unfold nF
    rw [if_neg (by omega), if_neg (by omega), if_neg (by omega), if_neg (by omega), if_neg (by omega), if_neg (by omega), if_neg (by omega), if_neg (by omega), if_neg (by omega), if_neg (by omega), if_neg (by omega), if_pos (by omega), Nat.add_sub_cancel_left]
    show _ = nI (va_up x.mk c v (c))
    unfold va_up
    rw [if_pos rfl]
  · rw [if_neg h]
    symm
    exact nF_ext rfl rfl rfl rfl rfl rfl rfl rfl rfl rfl rfl (fun _ _ => by show va_up _ c v _ = _; unfold va_up; rw [if_neg (by omega)]) (fun _ _ => rfl) (fun _ _ => rfl) (fun _ _ => rfl) (fun _ _ => rfl)
theorem nF_up {c v : Nat} (hc : c < 36) : upd (nF x r) (47 + c) (nI v) = nF (x.wpn c v) r := by
  funext i
  unfold upd
  by_cases h : i = 47 + c
  · rw [if_pos h]
    subst h
    unfold nF
    rw [if_neg (by omega), if_neg (by omega), if_neg (by omega), if_neg (by omega), if_neg (by omega), if_neg (by omega), if_neg (by omega), if_neg (by omega), if_neg (by omega), if_neg (by omega), if_neg (by omega), if_neg (by omega), if_pos (by omega), Nat.add_sub_cancel_left]
    show _ = nI (va_up x.pn c v (c))
    unfold va_up
    rw [if_pos rfl]
  · rw [if_neg h]
    symm
    exact nF_ext rfl rfl rfl rfl rfl rfl rfl rfl rfl rfl rfl (fun _ _ => rfl) (fun _ _ => by show va_up _ c v _ = _; unfold va_up; rw [if_neg (by omega)]) (fun _ _ => rfl) (fun _ _ => rfl) (fun _ _ => rfl)
def sRow.wsn (r : sRow) (c : Nat) (v : Int32) : sRow := (va_up r.sn c v, r.nS, r.ev, r.nE, r.bk, r.nB)
theorem nF_us {c : Nat} {v : Int32} (hc : c < 6) : upd (nF x r) (83 + c) v = nF x (r.wsn c v) := by
  funext i
  unfold upd
  by_cases h : i = 83 + c
  · rw [if_pos h]
    subst h
    unfold nF
    rw [if_neg (by omega), if_neg (by omega), if_neg (by omega), if_neg (by omega), if_neg (by omega), if_neg (by omega), if_neg (by omega), if_neg (by omega), if_neg (by omega), if_neg (by omega), if_neg (by omega), if_neg (by omega), if_neg (by omega), if_pos (by omega), Nat.add_sub_cancel_left]
    show _ = va_up r.sn c v (c)
    unfold va_up
    rw [if_pos rfl]
  · rw [if_neg h]
    symm
    exact nF_ext rfl rfl rfl rfl rfl rfl rfl rfl rfl rfl rfl (fun _ _ => rfl) (fun _ _ => rfl) (fun _ _ => by show va_up _ c v _ = _; unfold va_up; rw [if_neg (by omega)]) (fun _ _ => rfl) (fun _ _ => rfl)
def sRow.wev (r : sRow) (c : Nat) (v : Int32) : sRow := (r.sn, r.nS, va_up r.ev c v, r.nE, r.bk, r.nB)
theorem nF_ue {c : Nat} {v : Int32} (hc : c < 16) : upd (nF x r) (89 + c) v = nF x (r.wev c v) := by
  funext i
  unfold upd
  by_cases h : i = 89 + c
  · rw [if_pos h]
    subst h
    unfold nF
    rw [if_neg (by omega), if_neg (by omega), if_neg (by omega), if_neg (by omega), if_neg (by omega), if_neg (by omega), if_neg (by omega), if_neg (by omega), if_neg (by omega), if_neg (by omega), if_neg (by omega), if_neg (by omega), if_neg (by omega), if_neg (by omega), if_pos (by omega), Nat.add_sub_cancel_left]
    show _ = va_up r.ev c v (c)
    unfold va_up
    rw [if_pos rfl]
  · rw [if_neg h]
    symm
    exact nF_ext rfl rfl rfl rfl rfl rfl rfl rfl rfl rfl rfl (fun _ _ => rfl) (fun _ _ => rfl) (fun _ _ => rfl) (fun _ _ => by show va_up _ c v _ = _; unfold va_up; rw [if_neg (by omega)]) (fun _ _ => rfl)
def sRow.wbk (r : sRow) (c : Nat) (v : Int32) : sRow := (r.sn, r.nS, r.ev, r.nE, va_up r.bk c v, r.nB)
theorem nF_ub {c : Nat} {v : Int32} (hc : c < 8) : upd (nF x r) (105 + c) v = nF x (r.wbk c v) := by
  funext i
  unfold upd
  by_cases h : i = 105 + c
  · rw [if_pos h]
    subst h
    unfold nF
    rw [if_neg (by omega), if_neg (by omega), if_neg (by omega), if_neg (by omega), if_neg (by omega), if_neg (by omega), if_neg (by omega), if_neg (by omega), if_neg (by omega), if_neg (by omega), if_neg (by omega), if_neg (by omega), if_neg (by omega), if_neg (by omega), if_neg (by omega), if_pos (by omega), Nat.add_sub_cancel_left]
    show _ = va_up r.bk c v (c)
    unfold va_up
    rw [if_pos rfl]
  · rw [if_neg h]
    symm
    exact nF_ext rfl rfl rfl rfl rfl rfl rfl rfl rfl rfl rfl (fun _ _ => rfl) (fun _ _ => rfl) (fun _ _ => rfl) (fun _ _ => rfl) (fun _ _ => by show va_up _ c v _ = _; unfold va_up; rw [if_neg (by omega)])
end NF
def MoL (AH : xH) (m : Nat) (s : sMod) (x : sLat) (r : sRow) : Prop := ModAt AH m s ∧ s.nw = nF x r
section MOL
variable {AH : xH} {m : Nat} {s : sMod} {x : sLat} {r : sRow}
theorem MoL.put (h : MoL AH m s x r) (x2 : sLat) (r2 : sRow) : MoL (modP AH m (s.wnw (nF x2 r2))) m (s.wnw (nF x2 r2)) x2 r2 := ⟨h.1.put _, rfl⟩
theorem MoL.self (h : MoL AH m s x r) : modP AH m (s.wnw (nF x r)) = AH := by
  rw [← h.2]
  exact modP_self h.1
theorem MoL.rd (h : MoL AH m s x r) {c : Nat} (hc : c < 113) {K : Int32 → Prop} : xald AH (m + 1) (nI c) K = K (nF x r c) := by
  rw [h.1.r_nw hc, h.2]
theorem MoL.rm (h : MoL AH m s x r) {c : Nat} (hc : c < 36) {K : Int32 → Prop} : xald AH (m + 1) (nI (11 + c)) K = K (nI (x.mk c)) := by
  rw [h.rd (by omega), nF_mk hc]
theorem MoL.rp (h : MoL AH m s x r) {c : Nat} (hc : c < 36) {K : Int32 → Prop} : xald AH (m + 1) (nI (47 + c)) K = K (nI (x.pn c)) := by
  rw [h.rd (by omega), nF_pn hc]
theorem MoL.wr (h : MoL AH m s x r) {c : Nat} {v : Int32} (hc : c < 113) {K : xH → Prop} : xast AH (m + 1) (nI c) v K = K (modP AH m (s.wnw (upd (nF x r) c v))) := by
  rw [h.1.w_nw hc, h.2]
theorem MoL.wm (h : MoL AH m s x r) {c v : Nat} (hc : c < 36) {K : xH → Prop} : xast AH (m + 1) (nI (11 + c)) (nI v) K = K (modP AH m (s.wnw (nF (x.wmk c v) r))) := by
  rw [h.wr (by omega), nF_um hc]
theorem MoL.wp (h : MoL AH m s x r) {c v : Nat} (hc : c < 36) {K : xH → Prop} : xast AH (m + 1) (nI (47 + c)) (nI v) K = K (modP AH m (s.wnw (nF (x.wpn c v) r))) := by
  rw [h.wr (by omega), nF_up hc]
theorem MoL.i0 (h : MoL AH m s x r) {K : Int32 → Prop} : xald AH (m + 1) 0 K = K (nI x.hi) := h.rd (c := 0) (by decide)
theorem MoL.j0 (h : MoL AH m s x r) {K : Int32 → Prop} : xald AH (m + 1) (nI 0) K = K (nI x.hi) := h.rd (c := 0) (by decide)
theorem MoL.i1 (h : MoL AH m s x r) {K : Int32 → Prop} : xald AH (m + 1) 1 K = K (nI x.wi) := h.rd (c := 1) (by decide)
theorem MoL.j1 (h : MoL AH m s x r) {K : Int32 → Prop} : xald AH (m + 1) (nI 1) K = K (nI x.wi) := h.rd (c := 1) (by decide)
theorem MoL.i2 (h : MoL AH m s x r) {K : Int32 → Prop} : xald AH (m + 1) 2 K = K (nI x.he) := h.rd (c := 2) (by decide)
theorem MoL.j2 (h : MoL AH m s x r) {K : Int32 → Prop} : xald AH (m + 1) (nI 2) K = K (nI x.he) := h.rd (c := 2) (by decide)
theorem MoL.i3 (h : MoL AH m s x r) {K : Int32 → Prop} : xald AH (m + 1) 3 K = K (nI x.ne) := h.rd (c := 3) (by decide)
theorem MoL.j3 (h : MoL AH m s x r) {K : Int32 → Prop} : xald AH (m + 1) (nI 3) K = K (nI x.ne) := h.rd (c := 3) (by decide)
theorem MoL.i4 (h : MoL AH m s x r) {K : Int32 → Prop} : xald AH (m + 1) 4 K = K (nI x.ed) := h.rd (c := 4) (by decide)
theorem MoL.j4 (h : MoL AH m s x r) {K : Int32 → Prop} : xald AH (m + 1) (nI 4) K = K (nI x.ed) := h.rd (c := 4) (by decide)
theorem MoL.i5 (h : MoL AH m s x r) {K : Int32 → Prop} : xald AH (m + 1) 5 K = K (nI x.ki) := h.rd (c := 5) (by decide)
theorem MoL.j5 (h : MoL AH m s x r) {K : Int32 → Prop} : xald AH (m + 1) (nI 5) K = K (nI x.ki) := h.rd (c := 5) (by decide)
theorem MoL.i6 (h : MoL AH m s x r) {K : Int32 → Prop} : xald AH (m + 1) 6 K = K (nI x.nu) := h.rd (c := 6) (by decide)
theorem MoL.j6 (h : MoL AH m s x r) {K : Int32 → Prop} : xald AH (m + 1) (nI 6) K = K (nI x.nu) := h.rd (c := 6) (by decide)
theorem MoL.i7 (h : MoL AH m s x r) {K : Int32 → Prop} : xald AH (m + 1) 7 K = K (x.se) := h.rd (c := 7) (by decide)
theorem MoL.j7 (h : MoL AH m s x r) {K : Int32 → Prop} : xald AH (m + 1) (nI 7) K = K (x.se) := h.rd (c := 7) (by decide)
theorem MoL.i8 (h : MoL AH m s x r) {K : Int32 → Prop} : xald AH (m + 1) 8 K = K (nI r.nS) := h.rd (c := 8) (by decide)
theorem MoL.j8 (h : MoL AH m s x r) {K : Int32 → Prop} : xald AH (m + 1) (nI 8) K = K (nI r.nS) := h.rd (c := 8) (by decide)
theorem MoL.i9 (h : MoL AH m s x r) {K : Int32 → Prop} : xald AH (m + 1) 9 K = K (nI r.nE) := h.rd (c := 9) (by decide)
theorem MoL.j9 (h : MoL AH m s x r) {K : Int32 → Prop} : xald AH (m + 1) (nI 9) K = K (nI r.nE) := h.rd (c := 9) (by decide)
theorem MoL.i10 (h : MoL AH m s x r) {K : Int32 → Prop} : xald AH (m + 1) 10 K = K (nI r.nB) := h.rd (c := 10) (by decide)
theorem MoL.j10 (h : MoL AH m s x r) {K : Int32 → Prop} : xald AH (m + 1) (nI 10) K = K (nI r.nB) := h.rd (c := 10) (by decide)
theorem MoL.w0 (h : MoL AH m s x r) {v : Nat} {K : xH → Prop} : xast AH (m + 1) 0 (nI v) K = K (modP AH m (s.wnw (nF (x.whi v) r))) := by
  rw [show (0 : Int32) = nI 0 from rfl, h.wr (by decide), nF_u0]
theorem MoL.w1 (h : MoL AH m s x r) {v : Nat} {K : xH → Prop} : xast AH (m + 1) 1 (nI v) K = K (modP AH m (s.wnw (nF (x.wwi v) r))) := by
  rw [show (1 : Int32) = nI 1 from rfl, h.wr (by decide), nF_u1]
theorem MoL.w2 (h : MoL AH m s x r) {v : Nat} {K : xH → Prop} : xast AH (m + 1) 2 (nI v) K = K (modP AH m (s.wnw (nF (x.whe v) r))) := by
  rw [show (2 : Int32) = nI 2 from rfl, h.wr (by decide), nF_u2]
theorem MoL.w3 (h : MoL AH m s x r) {v : Nat} {K : xH → Prop} : xast AH (m + 1) 3 (nI v) K = K (modP AH m (s.wnw (nF (x.wne v) r))) := by
  rw [show (3 : Int32) = nI 3 from rfl, h.wr (by decide), nF_u3]
theorem MoL.w4 (h : MoL AH m s x r) {v : Nat} {K : xH → Prop} : xast AH (m + 1) 4 (nI v) K = K (modP AH m (s.wnw (nF (x.wed v) r))) := by
  rw [show (4 : Int32) = nI 4 from rfl, h.wr (by decide), nF_u4]
theorem MoL.w5 (h : MoL AH m s x r) {v : Nat} {K : xH → Prop} : xast AH (m + 1) 5 (nI v) K = K (modP AH m (s.wnw (nF (x.wki v) r))) := by
  rw [show (5 : Int32) = nI 5 from rfl, h.wr (by decide), nF_u5]
theorem MoL.w6 (h : MoL AH m s x r) {v : Nat} {K : xH → Prop} : xast AH (m + 1) 6 (nI v) K = K (modP AH m (s.wnw (nF (x.wnu v) r))) := by
  rw [show (6 : Int32) = nI 6 from rfl, h.wr (by decide), nF_u6]
theorem MoL.w7 (h : MoL AH m s x r) {v : Int32} {K : xH → Prop} : xast AH (m + 1) 7 (v) K = K (modP AH m (s.wnw (nF (x.wse v) r))) := by
  rw [show (7 : Int32) = nI 7 from rfl, h.wr (by decide), nF_u7]
theorem MoL.w8 (h : MoL AH m s x r) {v : Nat} {K : xH → Prop} : xast AH (m + 1) 8 (nI v) K = K (modP AH m (s.wnw (nF x (r.wnS v)))) := by
  rw [show (8 : Int32) = nI 8 from rfl, h.wr (by decide), nF_u8]
theorem MoL.w9 (h : MoL AH m s x r) {v : Nat} {K : xH → Prop} : xast AH (m + 1) 9 (nI v) K = K (modP AH m (s.wnw (nF x (r.wnE v)))) := by
  rw [show (9 : Int32) = nI 9 from rfl, h.wr (by decide), nF_u9]
theorem MoL.w10 (h : MoL AH m s x r) {v : Nat} {K : xH → Prop} : xast AH (m + 1) 10 (nI v) K = K (modP AH m (s.wnw (nF x (r.wnB v)))) := by
  rw [show (10 : Int32) = nI 10 from rfl, h.wr (by decide), nF_u10]
end MOL
