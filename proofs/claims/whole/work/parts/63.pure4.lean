section T8
variable {g : ge_G} {r r' : Nat → Int32} {c V E : Nat}
/-! what a row's words hang on -/
theorem p_shows_c {e : Nat} (h0 : r' 0 = r 0) (h6 : r' 6 = r 6) (hh : ∀ i, 74 ≤ i → r' i = r i) (he : ∀ i, i < 4 → p_e r' e i = p_e r e i) : p_shows r' e = p_shows r e := by
  unfold p_shows p_v
  rw [p_law_of (u := 0) h6 hh, h0, he 0 (by omega), he 1 (by omega), he 2 (by omega), he 3 (by omega)]
theorem p_heeded_c {w : Nat} (h0 : r' 0 = r 0) (h6 : r' 6 = r 6) (h7 : r' 7 = r 7) (hh : ∀ i, 74 ≤ i → r' i = r i) (ho : ∀ s, s < 2 → p_o r' w s = p_o r w s)
    (he : ∀ s, s < 2 → ¬ p_o r w s < 0 → ∀ i, i < 4 → p_e r' (p_n (p_o r w s)) i = p_e r (p_n (p_o r w s)) i) : p_heeded r' w = p_heeded r w := by
  unfold p_heeded
  rw [ho 0 (by omega), ho 1 (by omega), h0, p_law_of (u := 1) h7 hh]
  by_cases q0 : p_o r w 0 < 0
  · rw [if_pos q0, if_pos q0]
  · rw [if_neg q0, if_neg q0]
    by_cases q1 : p_o r w 1 < 0
    · rw [if_pos q1, if_pos q1]
    · rw [if_neg q1, if_neg q1, p_shows_c h0 h6 hh (he 0 (by omega) q0), p_shows_c h0 h6 hh (he 1 (by omega) q1)]
theorem p_heeded_sd {w : Nat} (q : ¬ p_heeded r w < 0) : ∃ s, s < 2 ∧ p_o r w s = p_heeded r w := by
  unfold p_heeded at q ⊢
  repeat' split
  · exact ⟨1, by omega, rfl⟩
  · exact ⟨0, by omega, rfl⟩
  · exact ⟨0, by omega, rfl⟩
  · exact ⟨1, by omega, rfl⟩
theorem p_hf_c {w : Nat} (h0 : r' 0 = r 0) (h6 : r' 6 = r 6) (h7 : r' 7 = r 7) (hh : ∀ i, 74 ≤ i → r' i = r i) (ho : ∀ s, s < 2 → p_o r' w s = p_o r w s)
    (he : ∀ s, s < 2 → ¬ p_o r w s < 0 → ∀ i, i < 4 → p_e r' (p_n (p_o r w s)) i = p_e r (p_n (p_o r w s)) i) : p_hf r' w = p_hf r w := by
  have e1 := p_heeded_c h0 h6 h7 hh ho he
  unfold p_hf
  rw [e1]
  by_cases q : p_heeded r w < 0
  · rw [if_pos q, if_pos q]
  · rw [if_neg q, if_neg q]
    obtain ⟨s, hs, es⟩ := p_heeded_sd q
    refine p_shows_c h0 h6 hh (fun i hi => ?_)
    have := he s hs (by rw [es]; exact q) i hi
    rw [es] at this
    exact this
/-! an hour of one leaves the others be -/
theorem p_e_wear {x : Int32} (hx : p_eo x) {e i : Nat} (hn : x < 0 ∨ p_n x ≠ e) (hi : i < 4) : p_e (p_wear r x) e i = p_e r e i := by
  unfold p_wear
  by_cases h0 : x < 0
  · rw [if_pos h0]
  · rw [if_neg h0, p_e_ue _ _ _ _ _ _ (by omega) hi, if_neg (fun q => (hn.resolve_left h0) q.1.symm)]
theorem p_e_look2 {w e' e i : Nat} (he : e < 8) (h0 : p_eo (p_o r w 0)) (h1 : p_eo (p_o r w 1)) (n0 : p_o r w 0 < 0 ∨ p_n (p_o r w 0) ≠ e) (n1 : p_o r w 1 < 0 ∨ p_n (p_o r w 1) ≠ e) (hi : i < 4) : p_e (p_look2 r w e') e i = p_e r e i := by
  have b0 : p_o (p_look1 r w e') w 0 = p_o r w 0 := p_o_look1 w e' 0 (by omega) w
  have b1 : p_o (p_wear1 (p_look1 r w e') w) w 1 = p_o r w 1 := by unfold p_wear1; rw [p_o_wear (by rw [b0]; exact h0), p_o_look1 w e' 1 (by omega)]
  unfold p_look2 p_wear2
  rw [b1, p_e_wear h1 n1 hi]
  unfold p_wear1
  rw [b0, p_e_wear h0 n0 hi]
  unfold p_look1
  rw [p_e_uo _ _ _ _ _ _ he hi, p_e_uo _ _ _ _ _ _ he hi]
theorem p_e_take {w e' e i : Nat} (he : e < 8) (hi : i < 4) : p_e (p_take r w e') e i = p_e r e i := by
  unfold p_take
  rw [p_e_uo _ _ _ _ _ _ he hi]
  split
  · rw [p_e_uo _ _ _ _ _ _ he hi]
  · rw [p_e_uo _ _ _ _ _ _ he hi]
theorem p_e_one {w e i : Nat} (he : e < 8) (h0 : p_eo (p_o r w 0)) (h1 : p_eo (p_o r w 1)) (n0 : p_o r w 0 < 0 ∨ p_n (p_o r w 0) ≠ e) (n1 : p_o r w 1 < 0 ∨ p_n (p_o r w 1) ≠ e) (hi : i < 4) : p_e (p_one r w) e i = p_e r e i := by
  unfold p_one
  split
  · rw [p_e_uo _ _ _ _ _ _ he hi]
  · unfold p_look
    split
    · rw [p_e_take he hi, p_e_look2 he h0 h1 n0 n1 hi]
    · rw [p_e_look2 he h0 h1 n0 n1 hi]
theorem p_o_wear' {x : Int32} (hx : p_eo x) (w k : Nat) : p_o (p_wear r x) w k = p_o r w k := p_o_wear hx w k
theorem p_oo_look2 {w e' w' k : Nat} (hw : w' ≠ w) (h0 : p_eo (p_o r w 0)) (h1 : p_eo (p_o r w 1)) (hk : k < 4) : p_o (p_look2 r w e') w' k = p_o r w' k := by
  have b0 : p_o (p_look1 r w e') w 0 = p_o r w 0 := p_o_look1 w e' 0 (by omega) w
  have b1 : p_o (p_wear1 (p_look1 r w e') w) w 1 = p_o r w 1 := by unfold p_wear1; rw [p_o_wear (by rw [b0]; exact h0), p_o_look1 w e' 1 (by omega)]
  unfold p_look2 p_wear2
  rw [b1, p_o_wear' h1]
  unfold p_wear1
  rw [b0, p_o_wear' h0]
  unfold p_look1
  rw [p_o_uo _ _ _ _ _ _ (by omega) hk, if_neg (by omega), p_o_uo _ _ _ _ _ _ (by omega) hk, if_neg (by omega)]
theorem p_oo_one {w w' k : Nat} (hw : w' ≠ w) (h0 : p_eo (p_o r w 0)) (h1 : p_eo (p_o r w 1)) (hk : k < 4) : p_o (p_one r w) w' k = p_o r w' k := by
  unfold p_one
  split
  · rw [p_o_uo _ _ _ _ _ _ (by omega) hk, if_neg (by omega)]
  · unfold p_look
    split
    · unfold p_take
      rw [p_o_uo _ _ _ _ _ _ (by omega) hk, if_neg (by omega)]
      split
      · rw [p_o_uo _ _ _ _ _ _ (by omega) hk, if_neg (by omega), p_oo_look2 hw h0 h1 hk]
      · rw [p_o_uo _ _ _ _ _ _ (by omega) hk, if_neg (by omega), p_oo_look2 hw h0 h1 hk]
    · rw [p_oo_look2 hw h0 h1 hk]
theorem p_uq_no {w w' s s' e : Nat} (hu : p_uq V r) (hw : w < V) (hw' : w' < V) (hs : s < 2) (hs' : s' < 2) (hn : w ≠ w') (h0 : p_eo (p_o r w s)) (h : p_o r w' s' = nI e) (he : e < 8) : p_o r w s < 0 ∨ p_n (p_o r w s) ≠ e := by
  by_cases q : p_o r w s < 0
  · exact Or.inl q
  · right
    intro z
    have e1 := (p_eo_n h0 q).1
    rw [z] at e1
    rcases hu w w' s s' hw hw' hs hs' (by rw [e1, h]) with a | a
    · exact q (by rw [a]; decide)
    · exact hn a.1
/-- what one heeds in an hour is what it would heed alone -/
theorem p_ones_keep (h : p_ok g c V r) {w : Nat} (hw : w < V) : ∀ j, j ≤ w → (∀ k, k < 4 → p_o (p_ones r j) w k = p_o r w k) ∧ (∀ s, s < 2 → ¬ p_o r w s < 0 → ∀ i, i < 4 → p_e (p_ones r j) (p_n (p_o r w s)) i = p_e r (p_n (p_o r w s)) i) := by
  intro j
  induction j with
  | zero => intro _; exact ⟨fun _ _ => rfl, fun _ _ _ _ _ => rfl⟩
  | succ j ih =>
    intro hj
    obtain ⟨a, b⟩ := ih (by omega)
    obtain ⟨hI, e3, hV, hu, -⟩ := p_ok_ones h j (by omega)
    have h0 := p_e1_eo (p_inv_e1 hI e3 hV (w := j) (by omega) (s := 0) (by omega))
    have h1 := p_e1_eo (p_inv_e1 hI e3 hV (w := j) (by omega) (s := 1) (by omega))
    refine ⟨fun k hk => ?_, fun s hs q i hi => ?_⟩
    · show p_o (p_one (p_ones r j) j) w k = _
      rw [p_oo_one (by omega) h0 h1 hk, a k hk]
    · show p_e (p_one (p_ones r j) j) _ i = _
      have hs' := p_e1_eo (p_inv_e1 hI e3 hV (w := w) hw (s := s) hs)
      rw [a s (by omega)] at hs'
      obtain ⟨e1, e2⟩ := p_eo_n hs' q
      have e1' : p_o (p_ones r j) w s = nI (p_n (p_o r w s)) := by rw [a s (by omega)]; exact e1
      rw [p_e_one e2 h0 h1 (p_uq_no hu (by omega) hw (by omega) hs (by omega) h0 e1' e2) (p_uq_no hu (by omega) hw (by omega) hs (by omega) h1 e1' e2) hi, b s hs q i hi]
theorem p_hf_ones (h : p_ok g c V r) {w : Nat} (hw : w < V) : p_hf (p_ones r w) w = p_hf r w := by
  obtain ⟨a, b⟩ := p_ones_keep h hw w (Nat.le_refl _)
  obtain ⟨hI, e3, hV, hu, -⟩ := h
  exact p_hf_c (p_lo_ones 0 (by omega) w) (p_lo_ones 6 (by omega) w) (p_lo_ones 7 (by omega) w) (fun i hi => p_hi_ones hI hV e3 hi w (by omega)) (fun s hs => a s (by omega)) b
theorem p_hs_at {hb : Nat → Int32} : ∀ k w, w < k → p_hs hb r k w = p_hf (p_ones r w) w := by
  intro k
  induction k with
  | zero => intro w hw; omega
  | succ k ih =>
    intro w hw
    show upd (p_hs hb r k) k (p_hf (p_ones r k) k) w = _
    by_cases q : w = k
    · subst q; unfold upd; rw [if_pos rfl]
    · rw [pk_un q, ih w (by omega)]
/-- what was heeded in the hour that went by last -/
theorem p_hh_at {hb : Nat → Int32} {i w : Nat} (h : p_ok g c V (p_hrs r i)) (hw : w < V) : p_hh hb r V (i + 1) w = p_hf (p_hrs r i) w := by
  show p_hs (p_hh hb r V i) (p_hrs r i) V w = _
  rw [p_hs_at V w hw, p_hf_ones h hw]
theorem p_hf_in (h : p_ok g c V r) {w : Nat} (hw : w < V) : ∃ t, t ≤ 10 ∧ p_hf r w = nI t ∧ (p_heeded r w < 0 ↔ t = 10) := by
  obtain ⟨hI, e3, hV, hu, -⟩ := h
  have h0 := p_e1_eo (p_inv_e1 hI e3 hV (w := w) hw (s := 0) (by omega))
  have h1 := p_e1_eo (p_inv_e1 hI e3 hV (w := w) hw (s := 1) (by omega))
  unfold p_hf
  by_cases q : p_heeded r w < 0
  · rw [if_pos q]; exact ⟨10, by omega, rfl, ⟨fun _ => rfl, fun _ => q⟩⟩
  · rw [if_neg q]
    obtain ⟨t, ht, et⟩ := p_shows_in hI (p_eo_n (p_heeded_eo h0 h1) q).2
    exact ⟨t, by omega, et, ⟨fun z => absurd z q, fun z => by omega⟩⟩
/-! rows that differ in one place alone -/
def p_x (j : Nat) (r r' : Nat → Int32) : Prop := ∀ i, i ≠ j → r' i = r i
theorem p_x_upd {j i : Nat} {a : Int32} (h : p_x j r r') : p_x j (upd r i a) (upd r' i a) := by
  intro k hk
  unfold upd
  split
  · rfl
  · exact h k hk
theorem p_x_up1 {j : Nat} {a b : Int32} (h : p_x j r r') : p_x j (upd r j a) (upd r' j b) := by
  intro k hk
  rw [pk_un hk, pk_un hk]; exact h k hk
end T8
