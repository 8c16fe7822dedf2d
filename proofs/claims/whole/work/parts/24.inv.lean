/-! the row stays in order -/
section I1
variable {c : Nat} {r : Nat → Int32}
theorem p_o_uo (r : Nat → Int32) (w k v' : Nat) (x : Int32) (w' : Nat) (hk : k < 4) (hv : v' < 4) : p_o (p_uo r w k x) w' v' = if w' = w ∧ v' = k then x else p_o r w' v' := by
  unfold p_o p_uo upd
  by_cases h : w' = w ∧ v' = k
  · obtain ⟨rfl, rfl⟩ := h; simp
  · have : ¬ (50 + 4 * w' + v' = 50 + 4 * w + k) := by omega
    simp [h, this]
theorem p_e_uo (r : Nat → Int32) (w k : Nat) (x : Int32) (e i : Nat) (he : e < 8) (hi : i < 4) : p_e (p_uo r w k x) e i = p_e r e i := by
  unfold p_e p_uo upd
  have : ¬ (18 + 4 * e + i = 50 + 4 * w + k) := by omega
  simp [this]
theorem p_e_ue (r : Nat → Int32) (e k : Nat) (x : Int32) (e' i : Nat) (hk : k < 4) (hi : i < 4) : p_e (p_ue r e k x) e' i = if e' = e ∧ i = k then x else p_e r e' i := by
  unfold p_e p_ue upd
  by_cases h : e' = e ∧ i = k
  · obtain ⟨rfl, rfl⟩ := h; simp
  · have : ¬ (18 + 4 * e' + i = 18 + 4 * e + k) := by omega
    simp [h, this]
theorem p_o_ue (r : Nat → Int32) (e k : Nat) (x : Int32) (w i : Nat) (he : e < 8) (hk : k < 4) : p_o (p_ue r e k x) w i = p_o r w i := by
  unfold p_o p_ue upd
  have : ¬ (50 + 4 * w + i = 18 + 4 * e + k) := by omega
  simp [this]
theorem p_lo_uo (r : Nat → Int32) (w k : Nat) (x : Int32) (i : Nat) (hi : i < 50) : p_uo r w k x i = r i := by
  unfold p_uo upd
  have : ¬ (i = 50 + 4 * w + k) := by omega
  simp [this]
theorem p_lo_ue (r : Nat → Int32) (e k : Nat) (x : Int32) (i : Nat) (hi : i < 18) : p_ue r e k x i = r i := by
  unfold p_ue upd
  have : ¬ (i = 18 + 4 * e + k) := by omega
  simp [this]
theorem p_sz_of {r r' : Nat → Int32} {u : Nat} (h : r' (6 + u) = r (6 + u)) (hz : p_sz r u) : p_sz r' u := by unfold p_sz; rw [h]; exact hz
theorem p_inv_uo {w k : Nat} {x : Int32} (h : p_inv c r) (hw : w < 6) (hk : k < 4) (hx : (k < 2 → x = -1) ∧ (k = 2 → ∃ j, j ≤ 99 ∧ x = nI j) ∧ (k = 3 → ∃ j, j < 1024 ∧ x = nI j)) : p_inv c (p_uo r w k x) := by
  obtain ⟨h1, h2, h3, ⟨E, hE, e2, V, hV, e3, hv⟩, h5, h6, h7⟩ := h
  refine ⟨p_sz_of (p_lo_uo r w k x _ (by omega)) h1, p_sz_of (p_lo_uo r w k x _ (by omega)) h2, ?_, ⟨E, hE, ?_, V, hV, ?_, ?_⟩, ?_, ?_, ?_⟩
  · rw [p_lo_uo r w k x 0 (by omega)]; exact h3
  · rw [p_lo_uo r w k x 2 (by omega)]; exact e2
  · rw [p_lo_uo r w k x 3 (by omega)]; exact e3
  · intro w' hw' s hs
    rw [p_o_uo r w k s x w' hk (by omega)]
    by_cases hc : w' = w ∧ s = k
    · rw [if_pos hc]; exact Or.inl (hx.1 (by omega))
    · rw [if_neg hc]; exact hv w' hw' s hs
  · intro e he
    rw [p_e_uo r w k x e 0 he (by omega), p_e_uo r w k x e 1 he (by omega), p_e_uo r w k x e 2 he (by omega), p_e_uo r w k x e 3 he (by omega)]
    exact h5 e he
  · intro w' hw'
    rw [p_o_uo r w k 2 x w' hk (by omega), p_o_uo r w k 3 x w' hk (by omega)]
    refine ⟨?_, ?_⟩
    · by_cases hc : w' = w ∧ 2 = k
      · rw [if_pos hc]; exact hx.2.1 hc.2.symm
      · rw [if_neg hc]; exact (h6 w' hw').1
    · by_cases hc : w' = w ∧ 3 = k
      · rw [if_pos hc]; exact hx.2.2 hc.2.symm
      · rw [if_neg hc]; exact (h6 w' hw').2
  · intro t ht
    rw [p_lo_uo r w k x _ (by omega)]; exact h7 t ht
theorem p_inv_ue {e k : Nat} {x : Int32} (h : p_inv c r) (he : e < 8) (hk : k < 4) (hx : (k = 0 → ∃ j, j ≤ 6 ∧ x = nI j) ∧ (k = 1 → ∃ j, j ≤ 9 ∧ x = nI j) ∧ (k = 2 → ∃ j, j ≤ 9 ∧ x = nI j) ∧ (k = 3 → ∃ j, j ≤ 9999 ∧ x = nI j)) : p_inv c (p_ue r e k x) := by
  obtain ⟨h1, h2, h3, ⟨E, hE, e2, V, hV, e3, hv⟩, h5, h6, h7⟩ := h
  refine ⟨p_sz_of (p_lo_ue r e k x _ (by omega)) h1, p_sz_of (p_lo_ue r e k x _ (by omega)) h2, ?_, ⟨E, hE, ?_, V, hV, ?_, ?_⟩, ?_, ?_, ?_⟩
  · rw [p_lo_ue r e k x 0 (by omega)]; exact h3
  · rw [p_lo_ue r e k x 2 (by omega)]; exact e2
  · rw [p_lo_ue r e k x 3 (by omega)]; exact e3
  · intro w' hw' s hs
    rw [p_o_ue r e k x w' s he hk]; exact hv w' hw' s hs
  · intro e' he'
    rw [p_e_ue r e k x e' 0 hk (by omega), p_e_ue r e k x e' 1 hk (by omega), p_e_ue r e k x e' 2 hk (by omega), p_e_ue r e k x e' 3 hk (by omega)]
    refine ⟨?_, ?_, ?_, ?_⟩
    · by_cases hc : e' = e ∧ 0 = k
      · rw [if_pos hc]; exact hx.1 hc.2.symm
      · rw [if_neg hc]; exact (h5 e' he').1
    · by_cases hc : e' = e ∧ 1 = k
      · rw [if_pos hc]; exact hx.2.1 hc.2.symm
      · rw [if_neg hc]; exact (h5 e' he').2.1
    · by_cases hc : e' = e ∧ 2 = k
      · rw [if_pos hc]; exact hx.2.2.1 hc.2.symm
      · rw [if_neg hc]; exact (h5 e' he').2.2.1
    · by_cases hc : e' = e ∧ 3 = k
      · rw [if_pos hc]; exact hx.2.2.2 hc.2.symm
      · rw [if_neg hc]; exact (h5 e' he').2.2.2
  · intro w' hw'
    rw [p_o_ue r e k x w' 2 he hk, p_o_ue r e k x w' 3 he hk]; exact h6 w' hw'
  · intro t ht
    rw [p_lo_ue r e k x _ (by omega)]; exact h7 t ht
theorem p_or_nI (a b : Nat) : nI a ||| nI b = nI (a ||| b) := by
  unfold nI
  apply Int32.toBitVec_inj.mp
  simp [BitVec.ofNat_or]
theorem p_bit_nI : ∀ t, t < 10 → (1 : Int32) <<< (nI t &&& 31) = nI (2 ^ t) := by decide
theorem p_seen_in {s t : Nat} (hs : s < 1024) (ht : t < 10) : ∃ k, k < 1024 ∧ nI s ||| ((1 : Int32) <<< (nI t &&& 31)) = nI k := by
  refine ⟨s ||| 2 ^ t, ?_, by rw [p_bit_nI t ht, p_or_nI]⟩
  have h2 : 2 ^ t < 2 ^ 10 := Nat.pow_lt_pow_right (by decide) ht
  exact Nat.or_lt_two_pow (n := 10) hs h2
theorem p_less_in (h : p_inv c r) {e : Nat} (he : e < 8) : ∃ k, k ≤ 18 ∧ p_less r e = nI k := by
  obtain ⟨t, ht, et⟩ := p_shows_in h he
  obtain ⟨q, hq, eq⟩ := p_heavy_in (r := r) (e := e)
  obtain ⟨z, hz, ez⟩ := h.2.2.2.2.2.2 t ht
  refine ⟨q * z, Nat.le_trans (Nat.mul_le_mul hq hz) (by decide), ?_⟩
  unfold p_less
  rw [et, p_n_nI (by omega), eq, ez, pk_mul]
theorem p_left_in (h : p_inv c r) {w e : Nat} (hw : w < 6) (he : e < 8) : ∃ k, k ≤ 99 ∧ p_left r w e = nI k := by
  obtain ⟨q, hq, eq⟩ := p_less_in h he
  obtain ⟨b, hb, eb⟩ := (h.2.2.2.2.2.1 w hw).1
  unfold p_left
  rw [eq, eb]
  split
  · exact ⟨0, by omega, rfl⟩
  · rename_i hc
    have hbq : ¬ b ≤ q := fun z => hc ((nI_leI (a := b) (b := q) (by omega) (by omega)).mpr z)
    have : q ≤ b := by omega
    exact ⟨b - q, by omega, pk_sub this⟩
theorem p_inv_look1 (h : p_inv c r) {w e : Nat} (hw : w < 6) (he : e < 8) : p_inv c (p_look1 r w e) := by
  obtain ⟨t, ht, et⟩ := p_shows_in h he
  obtain ⟨s, hs, es⟩ := (h.2.2.2.2.2.1 w hw).2
  obtain ⟨q, hq, eq⟩ := p_left_in h hw he
  unfold p_look1
  rw [eq, et, es]
  exact p_inv_uo (p_inv_uo h hw (by omega) ⟨fun z => by omega, fun z => by omega, fun _ => p_seen_in hs ht⟩) hw (by omega) ⟨fun z => by omega, fun _ => ⟨q, hq, rfl⟩, fun z => by omega⟩
theorem p_inv_wear (h : p_inv c r) {x : Int32} (hx : x < 0 ∨ ∃ j, j < 8 ∧ x = nI j) : p_inv c (p_wear r x) := by
  unfold p_wear
  by_cases h0 : x < 0
  · rw [if_pos h0]; exact h
  · rw [if_neg h0]
    obtain ⟨j, hj, rfl⟩ := hx.resolve_left h0
    rw [p_n_nI (by omega)]
    exact p_inv_ue h hj (by omega) ⟨fun z => by omega, fun z => by omega, fun z => by omega, fun _ => p_held_in 9999 (by decide)⟩
theorem p_o_wear {x : Int32} (hx : x < 0 ∨ ∃ j, j < 8 ∧ x = nI j) (w k : Nat) : p_o (p_wear r x) w k = p_o r w k := by
  unfold p_wear
  by_cases h0 : x < 0
  · rw [if_pos h0]
  · rw [if_neg h0]
    obtain ⟨j, hj, rfl⟩ := hx.resolve_left h0
    rw [p_n_nI (by omega), p_o_ue _ _ _ _ _ _ hj (by omega)]
theorem p_o_look1 (w e s : Nat) (hs : s < 2) (w' : Nat) : p_o (p_look1 r w e) w' s = p_o r w' s := by
  unfold p_look1
  rw [p_o_uo _ _ _ _ _ _ (by omega) (by omega), if_neg (by omega), p_o_uo _ _ _ _ _ _ (by omega) (by omega), if_neg (by omega)]
/-- what a side holds: nothing, or an eye -/
def p_eo (x : Int32) : Prop := x < 0 ∨ ∃ j, j < 8 ∧ x = nI j
theorem p_inv_eo (h : p_inv c r) {w s : Nat} (hw : nI w < r 3) (hw2 : w < 6) (hs : s < 2) : p_eo (p_o r w s) := by
  obtain ⟨E, hE, e2, V, hV, e3, hv⟩ := h.2.2.2.1
  have : w < V := (nI_ltI (by omega) (by omega)).mp (e3 ▸ hw)
  rcases hv w this s hs with q | ⟨e, he, q⟩
  · exact Or.inl (by rw [q]; decide)
  · exact Or.inr ⟨e, by omega, q⟩
theorem p_eo_n {x : Int32} (h : p_eo x) (h0 : ¬ x < 0) : x = nI (p_n x) ∧ p_n x < 8 := by
  obtain ⟨j, hj, rfl⟩ := h.resolve_left h0
  rw [p_n_nI (by omega)]
  exact ⟨rfl, hj⟩
theorem p_inv_look2 (h : p_inv c r) {w e : Nat} (hw : w < 6) (he : e < 8) (h0 : p_eo (p_o r w 0)) (h1 : p_eo (p_o r w 1)) : p_inv c (p_look2 r w e) ∧ (∀ s, s < 2 → ∀ w', p_o (p_look2 r w e) w' s = p_o r w' s) := by
  have a1 := p_inv_look1 h hw he
  have b0 : p_eo (p_o (p_look1 r w e) w 0) := by rw [p_o_look1 w e 0 (by omega)]; exact h0
  have a2 := p_inv_wear a1 b0
  have b1 : p_eo (p_o (p_wear1 (p_look1 r w e) w) w 1) := by unfold p_wear1; rw [p_o_wear b0, p_o_look1 w e 1 (by omega)]; exact h1
  refine ⟨p_inv_wear a2 b1, fun s hs w' => ?_⟩
  show p_o (p_wear (p_wear (p_look1 r w e) (p_o (p_look1 r w e) w 0)) (p_o (p_wear1 (p_look1 r w e) w) w 1)) w' s = _
  rw [p_o_wear b1, p_o_wear b0, p_o_look1 w e s hs]
theorem p_inv_look (h : p_inv c r) {w e : Nat} (hw : w < 6) (he : e < 8) (h0 : p_eo (p_o r w 0)) (h1 : p_eo (p_o r w 1)) : p_inv c (p_look r w e) := by
  obtain ⟨a, -⟩ := p_inv_look2 h hw he h0 h1
  unfold p_look p_take
  split
  · refine p_inv_uo ?_ hw (by omega) ⟨fun z => by omega, fun _ => ⟨20, by omega, rfl⟩, fun z => by omega⟩
    split
    · exact p_inv_uo a hw (by omega) ⟨fun _ => rfl, fun z => by omega, fun z => by omega⟩
    · exact p_inv_uo a hw (by omega) ⟨fun _ => rfl, fun z => by omega, fun z => by omega⟩
  · exact a
theorem p_heeded_eo {w : Nat} (h0 : p_eo (p_o r w 0)) (h1 : p_eo (p_o r w 1)) : p_eo (p_heeded r w) := by
  unfold p_heeded
  repeat' split
  all_goals assumption
theorem p_inv_one (h : p_inv c r) {w : Nat} (hw : w < 6) (h0 : p_eo (p_o r w 0)) (h1 : p_eo (p_o r w 1)) : p_inv c (p_one r w) := by
  unfold p_one
  split
  · exact p_inv_uo h hw (by omega) ⟨fun z => by omega, fun _ => p_held_in 99 (by decide), fun z => by omega⟩
  · rename_i hn
    exact p_inv_look h hw (p_eo_n (p_heeded_eo h0 h1) hn).2 h0 h1
/-- below 18 an hour of one writes nothing -/
theorem p_lo_wear {x : Int32} (i : Nat) (hi : i < 18) : p_wear r x i = r i := by
  unfold p_wear
  split
  · rfl
  · exact p_lo_ue _ _ _ _ _ hi
theorem p_lo_look2 {w e : Nat} (i : Nat) (hi : i < 18) : p_look2 r w e i = r i := by
  unfold p_look2 p_wear2 p_wear1 p_look1
  rw [p_lo_wear i hi, p_lo_wear i hi, p_lo_uo _ _ _ _ i (by omega), p_lo_uo _ _ _ _ i (by omega)]
theorem p_lo_take {w e : Nat} (i : Nat) (hi : i < 18) : p_take r w e i = r i := by
  unfold p_take
  rw [p_lo_uo _ _ _ _ i (by omega)]
  split
  · rw [p_lo_uo _ _ _ _ i (by omega)]
  · rw [p_lo_uo _ _ _ _ i (by omega)]
theorem p_lo_one {w : Nat} (i : Nat) (hi : i < 18) : p_one r w i = r i := by
  unfold p_one
  split
  · rw [p_lo_uo _ _ _ _ i (by omega)]
  · unfold p_look
    split
    · rw [p_lo_take i hi, p_lo_look2 i hi]
    · rw [p_lo_look2 i hi]
theorem p_lo_ones (i : Nat) (hi : i < 18) : ∀ w, p_ones r w i = r i := by
  intro w
  induction w with
  | zero => rfl
  | succ w ih => show p_one (p_ones r w) w i = r i; rw [p_lo_one i hi, ih]
theorem p_inv_ones (h : p_inv c r) {V : Nat} (hV : V ≤ 6) (e3 : r 3 = nI V) : ∀ w, w ≤ V → p_inv c (p_ones r w) := by
  intro w
  induction w with
  | zero => intro _; exact h
  | succ w ih =>
    intro hw
    have a := ih (by omega)
    have hlt : nI w < p_ones r w 3 := by rw [p_lo_ones 3 (by omega), e3]; exact (nI_ltI (by omega) (by omega)).mpr (by omega)
    exact p_inv_one a (by omega) (p_inv_eo a hlt (by omega) (by omega)) (p_inv_eo a hlt (by omega) (by omega))
theorem p_inv_hour (h : p_inv (c + 1) r) : p_inv c (p_hour r) := by
  obtain ⟨E, hE, e2, V, hV, e3, hv⟩ := h.2.2.2.1
  have a := p_inv_ones h hV e3 V (Nat.le_refl _)
  unfold p_hour
  rw [e3, p_n_nI (by omega)]
  generalize p_ones r V = r1 at a
  obtain ⟨h1, h2, ⟨q, hq, eq⟩, ⟨E, hE, e2, V, hV, e3, hv⟩, h5, h6, h7⟩ := a
  refine ⟨p_sz_of rfl h1, p_sz_of rfl h2, ⟨q + 1, by omega, ?_⟩, ⟨E, hE, e2, V, hV, e3, fun w hw s hs => ?_⟩, fun e he => ?_, fun w hw => ?_, fun t ht => ?_⟩
  · show r1 0 + 1 = _; rw [eq]; exact nI_1 q
  · have : p_o (upd r1 0 (r1 0 + 1)) w s = p_o r1 w s := by unfold p_o upd; simp
    rw [this]; exact hv w hw s hs
  · have : ∀ k, p_e (upd r1 0 (r1 0 + 1)) e k = p_e r1 e k := fun k => by unfold p_e upd; simp
    rw [this, this, this, this]; exact h5 e he
  · have : ∀ k, p_o (upd r1 0 (r1 0 + 1)) w k = p_o r1 w k := fun k => by unfold p_o upd; simp
    rw [this, this]; exact h6 w hw
  · have : upd r1 0 (r1 0 + 1) (8 + t) = r1 (8 + t) := by unfold upd; simp
    rw [this]; exact h7 t ht
theorem p_inv_weak {c' : Nat} (h : p_inv c r) (hc : c' ≤ c) : p_inv c' r := by
  obtain ⟨h1, h2, ⟨q, hq, eq⟩, h4⟩ := h
  exact ⟨h1, h2, ⟨q, by omega, eq⟩, h4⟩
theorem p_inv_hrs : ∀ n, p_inv (c + n) r → p_inv c (p_hrs r n) := by
  intro n
  induction n generalizing c with
  | zero => intro h; exact h
  | succ n ih =>
    intro h
    exact p_inv_hour (ih (c := c + 1) (by rw [show c + 1 + n = c + (n + 1) by omega]; exact h))
end I1
