/-! what eyes show, who heeds what, an hour: over the row -/
def p_n (x : Int32) : Nat := x.toNatClampNeg
def p_v (r : Nat → Int32) (e : Nat) : Int32 := p_law r 0 (p_e r e 2) (p_rem (r 0) 12) (p_e r e 1)
def p_shows (r : Nat → Int32) (e : Nat) : Int32 :=
  if p_e r e 0 = 1 then p_rem (p_v r e + p_e r e 1) 10 else if p_e r e 0 = 4 then p_rem (p_v r e + p_e r e 1 + p_rem (p_e r e 3) 3) 10
  else if p_e r e 0 = 2 then 9 - p_rem (p_v r e) 10 else if p_e r e 0 = 5 then (if p_rem (r 0) 4 = 0 then p_e r e 2 else 9 - p_rem (p_v r e) 10)
  else if p_e r e 0 = 3 then p_e r e 2 else if p_e r e 0 = 6 then p_rem (p_e r e 2 + p_rem (r 0) 2) 10 else p_rem (p_v r e) 10
def p_heavy (r : Nat → Int32) (e : Nat) : Int32 := if p_e r e 0 = 2 then 2 else if p_e r e 0 = 5 then (if p_rem (r 0) 4 = 0 then 0 else 2) else if p_e r e 0 = 4 then 0 else 1
def p_heeded (r : Nat → Int32) (w : Nat) : Int32 :=
  if p_o r w 0 < 0 then p_o r w 1 else if p_o r w 1 < 0 then p_o r w 0
  else if p_law r 1 (p_shows r (p_n (p_o r w 0))) (p_shows r (p_n (p_o r w 1))) (p_rem (r 0) 12) = 0 then p_o r w 0 else p_o r w 1
def p_less (r : Nat → Int32) (e : Nat) : Int32 := p_heavy r e * r (8 + p_n (p_shows r e))
def p_left (r : Nat → Int32) (w e : Nat) : Int32 := if p_o r w 2 ≤ p_less r e then 0 else p_o r w 2 - p_less r e
def p_wear (r : Nat → Int32) (x : Int32) : Nat → Int32 := if x < 0 then r else p_ue r (p_n x) 3 (p_held (p_e r (p_n x) 3 + 1) 0 9999)
def p_look1 (r : Nat → Int32) (w e : Nat) : Nat → Int32 := p_uo (p_uo r w 3 (p_o r w 3 ||| ((1 : Int32) <<< (p_shows r e &&& 31)))) w 2 (p_left r w e)
def p_wear1 (r : Nat → Int32) (w : Nat) : Nat → Int32 := p_wear r (p_o r w 0)
def p_wear2 (r : Nat → Int32) (w : Nat) : Nat → Int32 := p_wear r (p_o r w 1)
def p_look2 (r : Nat → Int32) (w e : Nat) : Nat → Int32 := p_wear2 (p_wear1 (p_look1 r w e) w) w
def p_take (r : Nat → Int32) (w e : Nat) : Nat → Int32 := p_uo (if p_o r w 0 = nI e then p_uo r w 0 (-1) else p_uo r w 1 (-1)) w 2 20
def p_look (r : Nat → Int32) (w e : Nat) : Nat → Int32 := if p_left r w e = 0 then p_take (p_look2 r w e) w e else p_look2 r w e
def p_one (r : Nat → Int32) (w : Nat) : Nat → Int32 := if p_heeded r w < 0 then p_uo r w 2 (p_held (p_o r w 2 + 1) 0 99) else p_look r w (p_n (p_heeded r w))
def p_ones (r : Nat → Int32) : Nat → Nat → Int32
  | 0 => r
  | w + 1 => p_one (p_ones r w) w
/-- who takes one out: after the wearers below w -/
def p_tk (r : Nat → Int32) (w : Nat) (t : Int32) : Int32 := if p_heeded r w < 0 then t else if p_left r w (p_n (p_heeded r w)) = 0 then t ||| ((1 : Int32) <<< (nI w &&& 31)) else t
def p_br (r : Nat → Int32) (w : Nat) (b : Int32) : Int32 := if p_heeded r w < 0 then b else b + (p_o r w 2 - p_left r w (p_n (p_heeded r w)))
def p_tks (r : Nat → Int32) : Nat → Int32
  | 0 => 0
  | w + 1 => p_tk (p_ones r w) w (p_tks r w)
def p_brs (r : Nat → Int32) : Nat → Int32
  | 0 => 0
  | w + 1 => p_br (p_ones r w) w (p_brs r w)
def p_hour (r : Nat → Int32) : Nat → Int32 := upd (p_ones r (p_n (r 3))) 0 (p_ones r (p_n (r 3)) 0 + 1)
def p_hrs (r : Nat → Int32) : Nat → Nat → Int32
  | 0 => r
  | n + 1 => p_hour (p_hrs r n)
def p_T (r : Nat → Int32) : Int32 := p_tks r (p_n (r 3))
def p_Bo (r : Nat → Int32) : Int32 := p_brs r (p_n (r 3))
/-- the row is in order: c hours may go by yet -/
def p_inv (c : Nat) (r : Nat → Int32) : Prop :=
  p_sz r 0 ∧ p_sz r 1 ∧ (∃ h, h + c ≤ 20000 ∧ r 0 = nI h) ∧ (∃ E, E ≤ 8 ∧ r 2 = nI E ∧ ∃ V, V ≤ 6 ∧ r 3 = nI V ∧ ∀ w, w < V → ∀ s, s < 2 → p_o r w s = -1 ∨ ∃ e, e < E ∧ p_o r w s = nI e) ∧
  (∀ e, e < 8 → (∃ k, k ≤ 6 ∧ p_e r e 0 = nI k) ∧ (∃ k, k ≤ 9 ∧ p_e r e 1 = nI k) ∧ (∃ k, k ≤ 9 ∧ p_e r e 2 = nI k) ∧ (∃ k, k ≤ 9999 ∧ p_e r e 3 = nI k)) ∧
  (∀ w, w < 6 → (∃ k, k ≤ 99 ∧ p_o r w 2 = nI k) ∧ (∃ k, k < 1024 ∧ p_o r w 3 = nI k)) ∧ (∀ t, t < 10 → ∃ k, k ≤ 9 ∧ r (8 + t) = nI k)
theorem p_n_nI {j : Nat} (h : j < 2 ^ 31) : p_n (nI j) = j := nI_clamp h
theorem p_held_in {x : Int32} (M : Nat) (hM : M < 2 ^ 31) : ∃ k, k ≤ M ∧ p_held x 0 (nI M) = nI k := by
  unfold p_held
  by_cases h0 : (0 : Int32) ≤ x
  · obtain ⟨j, hj, rfl⟩ := nI_of (x := x) (by rwa [Int32.not_lt])
    by_cases h1 : nI j ≤ nI M
    · exact ⟨j, (nI_leI hj hM).mp h1, by rw [if_pos h0, if_pos h1]⟩
    · exact ⟨M, Nat.le_refl _, by rw [if_pos h0, if_neg h1]⟩
  · exact ⟨0, Nat.zero_le _, by rw [if_neg h0]; rfl⟩
theorem p_rem_nI {a d : Nat} (ha : a < 2 ^ 31) (h0 : 0 < d) (hd : d < 2 ^ 31) : p_rem (nI a) (nI d) = nI (a % d) := pk_rem ha h0 hd
theorem p_law_in (r : Nat → Int32) (a b c : Int32) : ∃ k, k ≤ 99 ∧ p_law r 0 a b c = nI k := by
  unfold p_law
  have e : p_most 0 = nI 99 := rfl
  rw [e]
  split
  · exact p_held_in 99 (by decide)
  · exact p_held_in 99 (by decide)
theorem p_shows_in {c : Nat} {r : Nat → Int32} (h : p_inv c r) {e : Nat} (he : e < 8) : ∃ t, t < 10 ∧ p_shows r e = nI t := by
  obtain ⟨-, -, ⟨ho, hh, eh⟩, -, hE, -⟩ := h
  obtain ⟨⟨k, hk, ek⟩, ⟨m, hm, em⟩, ⟨b, hb, eb⟩, ⟨x, hx, ex⟩⟩ := hE e he
  obtain ⟨v, hv, ev⟩ := p_law_in r (p_e r e 2) (p_rem (r 0) 12) (p_e r e 1)
  have ev : p_v r e = nI v := ev
  have r10 : ∀ a : Nat, a < 30000 → p_rem (nI a) 10 = nI (a % 10) := fun a ha => p_rem_nI (d := 10) (by omega) (by decide) (by decide)
  have s9 : ∀ a : Nat, a < 10 → (9 : Int32) - nI a = nI (9 - a) := fun a ha => pk_sub (a := 9) (by omega)
  unfold p_shows
  rw [ev, em, eb, ex, eh]
  have e3 : p_rem (nI x) 3 = nI (x % 3) := p_rem_nI (d := 3) (by omega) (by decide) (by decide)
  have e2 : p_rem (nI ho) 2 = nI (ho % 2) := p_rem_nI (d := 2) (by omega) (by decide) (by decide)
  rw [e3, e2, nI_add, nI_add, nI_add, r10 _ (by omega), r10 _ (by omega), r10 _ (by omega), r10 _ (by omega), s9 _ (by omega)]
  repeat' split
  all_goals first | exact ⟨_, by omega, rfl⟩
theorem p_heavy_in {r : Nat → Int32} {e : Nat} : ∃ k, k ≤ 2 ∧ p_heavy r e = nI k := by
  unfold p_heavy
  repeat' split
  · exact ⟨2, by omega, rfl⟩
  · exact ⟨0, by omega, rfl⟩
  · exact ⟨2, by omega, rfl⟩
  · exact ⟨0, by omega, rfl⟩
  · exact ⟨1, by omega, rfl⟩
