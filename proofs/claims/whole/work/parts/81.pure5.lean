section J1
variable {g : ge_G} {r r' : Nat → Int32} {c V E : Nat}
theorem p_in_x {v L H : Int32} {lo hi : Nat} (hL : L = nI lo) (hH : H = nI hi) (hlo : lo < 2 ^ 31) (hhi : hi < 2 ^ 31) (h : ¬ p_in v L H = 0) : ∃ a, lo ≤ a ∧ a ≤ hi ∧ v = nI a := by
  unfold p_in at h
  by_cases h1 : v < L
  · exact absurd (if_pos h1) h
  · rw [if_neg h1] at h
    by_cases h2 : H < v
    · exact absurd (if_pos h2) h
    · have hL2 : nI lo ≤ v := by rw [← hL]; exact Int32.not_lt.mp h1
      have h0 : ¬ v < 0 := fun z => absurd (Int32.lt_of_lt_of_le z ((nI_leI (a := 0) (by decide) hlo).mpr (Nat.zero_le _))) (Int32.not_lt.mpr hL2)
      obtain ⟨j, hj, rfl⟩ := nI_of h0
      refine ⟨j, (nI_leI hlo hj).mp hL2, ?_, rfl⟩
      rw [hH] at h2
      exact (nI_leI hj hhi).mp (Int32.not_lt.mp h2)
theorem p_law_of2 {u : Nat} (h6 : r' (6 + u) = r (6 + u)) (hh : ∀ i, 144 ≤ i → r' i = r i) (A B C : Int32) : p_law r' u A B C = p_law r u A B C := by
  have e : ∀ n, e_b r' u n = e_b r u n := fun n => by funext k; unfold e_b; rw [hh _ (by omega)]
  unfold p_law e_all
  rw [h6, e]
theorem c_lw_of2 (h6 : r' 6 = r 6) (h7 : r' 7 = r 7) (hh : ∀ i, 144 ≤ i → r' i = r i) (h : c_lw g r) : c_lw g r' := by
  obtain ⟨⟨L, a1, a2⟩, ⟨M, b1, b2⟩⟩ := h
  exact ⟨⟨L, a1, fun A B C => by rw [a2, p_law_of2 (u := 0) h6 hh]⟩, ⟨M, b1, fun A B C => by rw [b2, p_law_of2 (u := 1) h7 hh]⟩⟩
theorem p_inv_lo (h : p_inv c r) (ha : ∀ i, ¬ (i = 1 ∨ i = 4 ∨ i = 5 ∨ (8 ≤ i ∧ i ≤ 17) ∨ (74 ≤ i ∧ i ≤ 143)) → r' i = r i) (hd : ∀ t, t < 10 → ∃ k, k ≤ 9 ∧ r' (8 + t) = nI k) : p_inv c r' := by
  obtain ⟨h1, h2, ⟨q, hq, eq⟩, ⟨E, hE, e2, W, hW, e3, hv⟩, h5, h6, h7⟩ := h
  have po : ∀ w k, w < 6 → k < 4 → p_o r' w k = p_o r w k := fun w k hw hk => ha _ (by omega)
  have pe : ∀ w k, w < 8 → k < 4 → p_e r' w k = p_e r w k := fun w k hw hk => ha _ (by omega)
  exact ⟨p_sz_of (ha _ (by omega)) h1, p_sz_of (ha _ (by omega)) h2, ⟨q, hq, (ha 0 (by omega)).trans eq⟩, ⟨E, hE, (ha 2 (by omega)).trans e2, W, hW, (ha 3 (by omega)).trans e3, fun w hw s hs => by rw [po w s (by omega) (by omega)]; exact hv w hw s hs⟩, fun e he => by rw [pe e 0 he (by omega), pe e 1 he (by omega), pe e 2 he (by omega), pe e 3 he (by omega)]; exact h5 e he, fun w hw => by rw [po w 2 hw (by omega), po w 3 hw (by omega)]; exact h6 w hw, hd⟩
theorem p_uq_lo (hV : V ≤ 6) (ha : ∀ w s, w < 6 → s < 2 → p_o r' w s = p_o r w s) (hu : p_uq V r) : p_uq V r' := by
  intro w1 w2 s1 s2 k1 k2 k3 k4 k5
  rw [ha w1 s1 (by omega) k3] at k5 ⊢
  rw [ha w2 s2 (by omega) k4] at k5
  exact hu w1 w2 s1 s2 k1 k2 k3 k4 k5
theorem p_ok_lo (h : p_ok g c V r) (ha : ∀ i, ¬ (i = 1 ∨ i = 4 ∨ i = 5 ∨ (8 ≤ i ∧ i ≤ 17) ∨ (74 ≤ i ∧ i ≤ 143)) → r' i = r i) (hd : ∀ t, t < 10 → ∃ k, k ≤ 9 ∧ r' (8 + t) = nI k) : p_ok g c V r' := by
  obtain ⟨hI, e3, hV, hu, hL⟩ := h
  exact ⟨p_inv_lo hI ha hd, (ha 3 (by omega)).trans e3, hV, p_uq_lo hV (fun w s hw hs => ha _ (by omega)) hu, c_lw_of2 (ha 6 (by omega)) (ha 7 (by omega)) (fun i hi => ha i (by omega)) hL⟩
theorem p_ok_dread {a b : Nat} (h : p_ok g c V r) (ha : a ≤ 9) (hb : b ≤ 9) : p_ok g c V (upd r (8 + a) (nI b)) := by
  refine p_ok_lo h (fun i hi => pk_un (by omega)) (fun t ht => ?_)
  by_cases e : t = a
  · subst e; exact ⟨b, hb, pk_us⟩
  · rw [pk_un (by omega)]; exact h.1.2.2.2.2.2.2 t ht
theorem p_inv_hr {k : Nat} (h : p_inv k r) (hh : ∃ q, q ≤ 10000 ∧ r 0 = nI q) : p_inv 10000 r := by
  obtain ⟨h1, h2, h3, h4⟩ := h
  obtain ⟨q, hq, eq⟩ := hh
  exact ⟨h1, h2, ⟨q, by omega, eq⟩, h4⟩
theorem p_ok_hr {k : Nat} (h : p_ok g k V r) (hh : ∃ q, q ≤ 10000 ∧ r 0 = nI q) : p_ok g 10000 V r := ⟨p_inv_hr h.1 hh, h.2⟩
theorem p_div10 {a : Nat} (ha : a ≤ 69) : (∃ k, k ≤ 6 ∧ nI a / 10 = nI k) ∧ (∃ k, k ≤ 9 ∧ p_rem (nI a) 10 = nI k) := by
  refine ⟨⟨a / 10, by omega, pk_div (d := 10) (by omega) (by decide) (by decide)⟩, ⟨a % 10, by omega, p_rem_nI (d := 10) (by omega) (by decide) (by decide)⟩⟩
/-- one eye more -/
theorem p_ok_addE {k m b : Int32} (h : p_ok g c V r) (hE : E < 8) (e2 : r 2 = nI E) (hk : ∃ j, j ≤ 6 ∧ k = nI j) (hm : ∃ j, j ≤ 9 ∧ m = nI j) (hb : ∃ j, j ≤ 9 ∧ b = nI j) : p_ok g c V (upd (p_addE r E k m b) 2 (nI (E + 1))) := by
  have h1 := p_ok_ue (e := E) (k := 0) (v := k) h hE (by omega) ⟨fun _ => hk, fun z => by omega, fun z => by omega, fun z => by omega⟩
  have h2 := p_ok_ue (e := E) (k := 1) (v := m) h1 hE (by omega) ⟨fun z => by omega, fun _ => hm, fun z => by omega, fun z => by omega⟩
  have h3 := p_ok_ue (e := E) (k := 2) (v := b) h2 hE (by omega) ⟨fun z => by omega, fun z => by omega, fun _ => hb, fun z => by omega⟩
  have h4 := p_ok_ue (e := E) (k := 3) (v := 0) h3 hE (by omega) ⟨fun z => by omega, fun z => by omega, fun z => by omega, fun _ => ⟨0, by omega, rfl⟩⟩
  show p_ok g c V (upd (p_ue (p_ue (p_ue (p_ue r E 0 k) E 1 m) E 2 b) E 3 0) 2 (nI (E + 1)))
  have e4 : (p_ue (p_ue (p_ue (p_ue r E 0 k) E 1 m) E 2 b) E 3 0) 2 = nI E := by
    rw [p_lo_ue _ _ _ _ 2 (by omega), p_lo_ue _ _ _ _ 2 (by omega), p_lo_ue _ _ _ _ 2 (by omega), p_lo_ue _ _ _ _ 2 (by omega)]; exact e2
  generalize p_ue (p_ue (p_ue (p_ue r E 0 k) E 1 m) E 2 b) E 3 0 = r1 at h4 e4
  obtain ⟨⟨i1, i2, ⟨q, hq, eq⟩, ⟨E', hE', e2', W, hW, e3', hv⟩, i5, i6, i7⟩, e3, hV, hu, hL⟩ := h4
  obtain rfl : E' = E := (nI_eq (by omega) (by omega)).mp (e2'.symm.trans e4)
  have po : ∀ w k, p_o (upd r1 2 (nI (E' + 1))) w k = p_o r1 w k := fun w k => pk_un (by omega)
  have pe : ∀ w k, p_e (upd r1 2 (nI (E' + 1))) w k = p_e r1 w k := fun w k => pk_un (by omega)
  refine ⟨⟨p_sz_of (pk_un (by omega)) i1, p_sz_of (pk_un (by omega)) i2, ⟨q, hq, eq⟩, ⟨E' + 1, by omega, pk_us, W, hW, e3', fun w hw s hs => ?_⟩, fun e he => by rw [pe, pe, pe, pe]; exact i5 e he, fun w hw => by rw [po, po]; exact i6 w hw, fun t ht => by rw [pk_un (by omega)]; exact i7 t ht⟩, e3, hV, p_uq_lo hV (fun w s _ _ => po w s) hu, c_lw_of (pk_un (by decide)) (pk_un (by decide)) (fun i hi => pk_un (by omega)) hL⟩
  rw [po]
  rcases hv w hw s hs with z | ⟨e, he, z⟩
  · exact Or.inl z
  · exact Or.inr ⟨e, by omega, z⟩
/-- one wearer more -/
theorem p_ok_addW (h : p_ok g c V r) (hV6 : V < 6) : p_ok g c (V + 1) (upd (p_addW r V) 3 (nI (V + 1))) := by
  have h1 := p_ok_uo (w := V) (k := 0) (v := -1) h hV6 (by omega) ⟨fun _ => rfl, fun z => by omega, fun z => by omega⟩
  have h2 := p_ok_uo (w := V) (k := 1) (v := -1) h1 hV6 (by omega) ⟨fun _ => rfl, fun z => by omega, fun z => by omega⟩
  have h3 := p_ok_uo (w := V) (k := 2) (v := 20) h2 hV6 (by omega) ⟨fun z => by omega, fun _ => ⟨20, by omega, rfl⟩, fun z => by omega⟩
  have h4 := p_ok_uo (w := V) (k := 3) (v := 0) h3 hV6 (by omega) ⟨fun z => by omega, fun z => by omega, fun _ => ⟨0, by omega, rfl⟩⟩
  have s0 : ∀ s, s < 2 → p_o (p_uo (p_uo (p_uo (p_uo r V 0 (-1)) V 1 (-1)) V 2 20) V 3 0) V s = -1 := by
    intro s hs
    rw [p_o_uo _ _ _ _ _ _ (by omega) (by omega), if_neg (by omega), p_o_uo _ _ _ _ _ _ (by omega) (by omega), if_neg (by omega), p_o_uo _ _ _ _ _ _ (by omega) (by omega)]
    by_cases z : s = 1
    · rw [if_pos ⟨rfl, z⟩]
    · rw [if_neg (fun y => z y.2), p_o_uo _ _ _ _ _ _ (by omega) (by omega), if_pos ⟨rfl, by omega⟩]
  show p_ok g c (V + 1) (upd (p_uo (p_uo (p_uo (p_uo r V 0 (-1)) V 1 (-1)) V 2 20) V 3 0) 3 (nI (V + 1)))
  generalize p_uo (p_uo (p_uo (p_uo r V 0 (-1)) V 1 (-1)) V 2 20) V 3 0 = r1 at h4 s0
  obtain ⟨⟨i1, i2, ⟨q, hq, eq⟩, ⟨E', hE', e2', W, hW, e3', hv⟩, i5, i6, i7⟩, e3, hV, hu, hL⟩ := h4
  obtain rfl : W = V := (nI_eq (by omega) (by omega)).mp (e3'.symm.trans e3)
  have po : ∀ w k, p_o (upd r1 3 (nI (W + 1))) w k = p_o r1 w k := fun w k => pk_un (by omega)
  have pe : ∀ w k, p_e (upd r1 3 (nI (W + 1))) w k = p_e r1 w k := fun w k => pk_un (by omega)
  refine ⟨⟨p_sz_of (pk_un (by omega)) i1, p_sz_of (pk_un (by omega)) i2, ⟨q, hq, eq⟩, ⟨E', hE', e2', W + 1, by omega, pk_us, fun w hw s hs => ?_⟩, fun e he => by rw [pe, pe, pe, pe]; exact i5 e he, fun w hw => by rw [po, po]; exact i6 w hw, fun t ht => by rw [pk_un (by omega)]; exact i7 t ht⟩, pk_us, by omega, fun w1 w2 s1 s2 k1 k2 k3 k4 k5 => ?_, c_lw_of (pk_un (by decide)) (pk_un (by decide)) (fun i hi => pk_un (by omega)) hL⟩
  · rw [po]
    by_cases z : w = W
    · subst z; exact Or.inl (s0 s hs)
    · exact hv w (by omega) s hs
  · rw [po, po] at k5
    rw [po]
    by_cases z1 : w1 = W
    · subst z1; exact Or.inl (s0 s1 k3)
    · by_cases z2 : w2 = W
      · subst z2; left; rw [k5]; exact s0 s2 k4
      · exact hu w1 w2 s1 s2 (by omega) (by omega) k3 k4 k5
end J1
