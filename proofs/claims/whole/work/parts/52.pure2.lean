/-! what keeps a row in order -/
section Q5
variable {g : ge_G} {r x hb : Nat → Int32} {c V : Nat}
theorem p_ok_ue {e k : Nat} {v : Int32} (h : p_ok g c V r) (he : e < 8) (hk : k < 4) (hx : (k = 0 → ∃ j, j ≤ 6 ∧ v = nI j) ∧ (k = 1 → ∃ j, j ≤ 9 ∧ v = nI j) ∧ (k = 2 → ∃ j, j ≤ 9 ∧ v = nI j) ∧ (k = 3 → ∃ j, j ≤ 9999 ∧ v = nI j)) : p_ok g c V (p_ue r e k v) := by
  obtain ⟨h1, h2, h3, h4, h5⟩ := h
  refine ⟨p_inv_ue h1 he hk hx, by rw [p_lo_ue r e k v 3 (by omega)]; exact h2, h3, fun w w' s s' a1 a2 a3 a4 hq => ?_, c_lw_of (p_lo_ue r e k v 6 (by omega)) (p_lo_ue r e k v 7 (by omega)) (fun i hi => p_hi_ue r v he hk hi) h5⟩
  rw [p_o_ue r e k v w s he hk] at hq ⊢
  rw [p_o_ue r e k v w' s' he hk] at hq
  exact h4 w w' s s' a1 a2 a3 a4 hq
theorem p_ok_uo {w k : Nat} {v : Int32} (h : p_ok g c V r) (hw : w < 6) (hk : k < 4) (hx : (k < 2 → v = -1) ∧ (k = 2 → ∃ j, j ≤ 99 ∧ v = nI j) ∧ (k = 3 → ∃ j, j < 1024 ∧ v = nI j)) : p_ok g c V (p_uo r w k v) := by
  obtain ⟨h1, h2, h3, h4, h5⟩ := h
  refine ⟨p_inv_uo h1 hw hk hx, by rw [p_lo_uo r w k v 3 (by omega)]; exact h2, h3, fun w1 w2 s1 s2 a1 a2 a3 a4 hq => ?_, c_lw_of (p_lo_uo r w k v 6 (by omega)) (p_lo_uo r w k v 7 (by omega)) (fun i hi => p_hi_uo r v hw hk hi) h5⟩
  rw [p_o_uo r w k s1 v w1 hk (by omega)] at hq ⊢
  rw [p_o_uo r w k s2 v w2 hk (by omega)] at hq
  by_cases q1 : w1 = w ∧ s1 = k
  · rw [if_pos q1]; exact Or.inl (hx.1 (by omega))
  · rw [if_neg q1] at hq ⊢
    by_cases q2 : w2 = w ∧ s2 = k
    · rw [if_pos q2] at hq; exact Or.inl (hq.trans (hx.1 (by omega)))
    · rw [if_neg q2] at hq; exact h4 w1 w2 s1 s2 a1 a2 a3 a4 hq
/-- a cell that no law and no order speaks of -/
theorem p_ok_u1 {z : Int32} (h : p_ok g c V r) : p_ok g c V (upd r 1 z) := by
  obtain ⟨⟨h1, h2, ⟨q, hq, eq⟩, ⟨E, hE, e2, W, hW, e3, hv⟩, h5, h6, h7⟩, k2, k3, k4, k5⟩ := h
  have po : ∀ w k, p_o (upd r 1 z) w k = p_o r w k := fun w k => by unfold p_o upd; rw [if_neg (by omega)]
  have pe : ∀ w k, p_e (upd r 1 z) w k = p_e r w k := fun w k => by unfold p_e upd; rw [if_neg (by omega)]
  have pl : ∀ i, i ≠ 1 → upd r 1 z i = r i := fun i hi => pk_un hi
  refine ⟨⟨p_sz_of (pl _ (by omega)) h1, p_sz_of (pl _ (by omega)) h2, ⟨q, hq, (pl 0 (by decide)).trans eq⟩, ⟨E, hE, (pl 2 (by decide)).trans e2, W, hW, (pl 3 (by decide)).trans e3, fun w hw s hs => by rw [po]; exact hv w hw s hs⟩, fun e he => by rw [pe, pe, pe, pe]; exact h5 e he, fun w hw => by rw [po, po]; exact h6 w hw, fun t ht => by rw [pl _ (by omega)]; exact h7 t ht⟩, (pl 3 (by decide)).trans k2, k3, fun w w' s s' a1 a2 a3 a4 => by rw [po, po]; exact k4 w w' s s' a1 a2 a3 a4, c_lw_of (pl 6 (by decide)) (pl 7 (by decide)) (fun i hi => pl i (by omega)) k5⟩
theorem p_ok_weak {c' : Nat} (h : p_ok g c V r) (hc : c' ≤ c) : p_ok g c' V r := ⟨p_inv_weak h.1 hc, h.2⟩
/-- a base is drawn -/
def p_dz (r : Nat → Int32) : Int32 := r 1 * 1103515245 + 12345
def p_dv (r : Nat → Int32) : Int32 := ge_us (p_dz r) 8
def p_drw (r : Nat → Int32) : Nat → Int32 := if r 2 ≤ 0 then upd r 1 (p_dz r) else p_ue (upd r 1 (p_dz r)) (p_n (p_rem (p_dv r) (r 2))) 2 (p_rem (p_dv r / 8) 10)
theorem p_drw_t (h : r 2 ≤ 0) : p_drw r = upd r 1 (p_dz r) := if_pos h
theorem p_drw_f (h : ¬ r 2 ≤ 0) : p_drw r = p_ue (upd r 1 (p_dz r)) (p_n (p_rem (p_dv r) (r 2))) 2 (p_rem (p_dv r / 8) 10) := if_neg h
theorem p_dv_in (r : Nat → Int32) : ∃ q, q < 2 ^ 24 ∧ p_dv r = nI q := p_us8 _
theorem p_drw_ix {E : Nat} (e2 : r 2 = nI E) (h0 : ¬ r 2 ≤ 0) (hE : E ≤ 8) : 0 < E ∧ p_rem (p_dv r) (r 2) = nI (p_n (p_rem (p_dv r) (r 2))) ∧ p_n (p_rem (p_dv r) (r 2)) < E := by
  have hp : 0 < E := by
    rcases Nat.eq_zero_or_pos E with q | q
    · rw [e2, q] at h0; exact absurd (by decide) h0
    · exact q
  obtain ⟨q, hq, eq⟩ := p_dv_in r
  rw [eq, e2, p_rem_nI (by omega) hp (by omega), p_n_nI (by have := Nat.mod_lt q hp; omega)]
  exact ⟨hp, rfl, Nat.mod_lt q hp⟩
theorem p_drw_b (r : Nat → Int32) : ∃ j, j ≤ 9 ∧ p_rem (p_dv r / 8) 10 = nI j := by
  obtain ⟨q, hq, eq⟩ := p_dv_in r
  rw [eq, show nI q / 8 = nI (q / 8) from pk_div (d := 8) (by omega) (by decide) (by decide), show p_rem (nI (q / 8)) 10 = nI (q / 8 % 10) from p_rem_nI (d := 10) (by omega) (by decide) (by decide)]
  exact ⟨_, by omega, rfl⟩
theorem p_ok_drw (h : p_ok g c V r) : p_ok g c V (p_drw r) := by
  obtain ⟨E, hE, e2, -⟩ := h.1.2.2.2.1
  unfold p_drw
  by_cases h0 : r 2 ≤ 0
  · rw [if_pos h0]; exact p_ok_u1 h
  · rw [if_neg h0]
    have := p_drw_ix e2 h0 hE
    exact p_ok_ue (p_ok_u1 h) (by omega) (by decide) ⟨fun z => by omega, fun z => by omega, fun _ => p_drw_b r, fun z => by omega⟩
theorem p_drw_2 : p_drw r 2 = r 2 := by
  unfold p_drw
  split
  · rfl
  · rw [p_lo_ue _ _ _ _ 2 (by omega)]; rfl
theorem p_hour_2 : p_hour r 2 = r 2 := by
  unfold p_hour
  rw [pk_un (by decide), p_lo_ones 2 (by omega)]
def p_lrs (r : Nat → Int32) : Nat → Nat → Int32
  | 0 => r
  | i + 1 => p_hour (p_drw (p_lrs r i))
theorem p_lrs_2 : ∀ i, p_lrs r i 2 = r 2 := by
  intro i
  induction i with
  | zero => rfl
  | succ i ih => show p_hour (p_drw (p_lrs r i)) 2 = r 2; rw [p_hour_2, p_drw_2, ih]
theorem p_ok_lrs : ∀ i, p_ok g (c + i) V r → p_ok g c V (p_lrs r i) := by
  intro i
  induction i generalizing c with
  | zero => intro h; exact h
  | succ i ih =>
    intro h
    exact p_ok_hour (p_ok_drw (ih (c := c + 1) (by rw [show c + 1 + i = c + (i + 1) by omega]; exact h)))
def p_lxs (x r : Nat → Int32) (V : Nat) : Nat → Nat → Int32
  | 0 => x
  | i + 1 => p_xh (p_lxs x r V i) (p_drw (p_lrs r i)) V 1
def p_lhs (hb r : Nat → Int32) (V : Nat) : Nat → Nat → Int32
  | 0 => hb
  | i + 1 => p_hh (p_lhs hb r V i) (p_drw (p_lrs r i)) V 1
def p_los (r : Nat → Int32) : Nat → Nat
  | 0 => 0
  | i + 1 => p_los r i + p_outs (p_drw (p_lrs r i)) 1
def p_lfs (f r : Nat → Int32) : Nat → Nat → Int32
  | 0 => f
  | i + 1 => p_tb (p_lfs f r i) (p_pt (p_lfs f r i) (p_drw (p_lrs r i)) 1) (p_pb (p_lfs f r i) (p_drw (p_lrs r i)) 1)
theorem p_lxs_18 : ∀ i, p_lxs x r V i 18 = x 18 := by
  intro i
  induction i with
  | zero => rfl
  | succ i ih => show p_xh (p_lxs x r V i) _ V 1 18 = _; rw [p_xh_18, ih]
theorem p_lxs_15 (hx : x 15 = 0) : ∀ i, p_ok g (c + i) V r → p_lxs x r V i 15 = nI (p_los r i) := by
  intro i
  induction i generalizing c with
  | zero => intro _; exact hx
  | succ i ih =>
    intro h
    have h1 : p_ok g (c + 1 + i) V r := by rw [show c + 1 + i = c + (i + 1) by omega]; exact h
    show p_xh (p_lxs x r V i) (p_drw (p_lrs r i)) V 1 15 = nI (p_los r i + p_outs (p_drw (p_lrs r i)) 1)
    exact p_xh_15 (g := g) (c := c) (p_los r i) (ih h1) 1 (p_ok_drw (p_ok_lrs (c := c + 1) i h1))
/-- a tape of bytes is fed: the row's, the class's -/
def p_fd (r : Nat → Int32) (w : Int64) (t : Nat) : Nat → Nat → Int32
  | 0 => r
  | i + 1 => upd (upd (p_fd r w t i) (74 + (t + i)) (p_byte w i)) 4 (nI (t + i + 1))
def ge_fd (g : ge_G) (w : Int64) (t : Nat) : Nat → ge_G
  | 0 => g
  | i + 1 => ge_up (ge_up (ge_fd g w t i) 59 (t + i) (p_byte w i)) 58 1 (nI (t + i + 1))
theorem p_fd_4 {w : Int64} {t : Nat} (h : r 4 = nI t) : ∀ i, p_fd r w t i 4 = nI (t + i) := by
  intro i
  cases i with
  | zero => exact h
  | succ i => exact pk_us
theorem ge_fd_58 {w : Int64} {t : Nat} (h : g 58 1 = nI t) : ∀ i, ge_fd g w t i 58 1 = nI (t + i) := by
  intro i
  cases i with
  | zero => exact h
  | succ i => exact ge_up_self _ _ _ _
end Q5
