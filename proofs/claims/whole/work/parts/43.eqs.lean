/-! the class's own words are the row's -/
section Q3
variable {g : ge_G} {r x hb : Nat → Int32} {c : Nat}
/-- how many took one out, of the wearers below w -/
def p_ct (r : Nat → Int32) : Nat → Nat
  | 0 => 0
  | w + 1 => if p_heeded (p_ones r w) w < 0 then p_ct r w else if p_left (p_ones r w) w (p_n (p_heeded (p_ones r w) w)) = 0 then p_ct r w + 1 else p_ct r w
theorem p_ct_s (r : Nat → Int32) (w : Nat) : p_ct r (w + 1) = if p_heeded (p_ones r w) w < 0 then p_ct r w else if p_left (p_ones r w) w (p_n (p_heeded (p_ones r w) w)) = 0 then p_ct r w + 1 else p_ct r w := rfl
theorem p_xf_15 (w : Nat) : p_xf x r w 15 = if p_heeded r w < 0 then x 15 else if p_left r w (p_n (p_heeded r w)) = 0 then x 15 + 1 else x 15 := by
  unfold p_xf p_xt
  by_cases h : p_heeded r w < 0
  · rw [if_pos h, if_pos h]
  · rw [if_neg h, if_neg h]
    by_cases h2 : p_left r w (p_n (p_heeded r w)) = 0
    · rw [if_pos h2, if_pos h2]
      split <;> simp [upd]
    · rw [if_neg h2, if_neg h2]; simp [upd]
theorem p_xs_15 (e : Nat) (he : x 15 = nI e) : ∀ w, p_xs x r w 15 = nI (e + p_ct r w) := by
  intro w
  induction w with
  | zero => exact he
  | succ w ih =>
    show p_xf (p_xs x r w) (p_ones r w) w 15 = _
    rw [p_xf_15, ih, p_ct_s]
    by_cases h : p_heeded (p_ones r w) w < 0
    · rw [if_pos h, if_pos h]
    · rw [if_neg h, if_neg h]
      by_cases h2 : p_left (p_ones r w) w (p_n (p_heeded (p_ones r w) w)) = 0
      · rw [if_pos h2, if_pos h2, nI_1]; rfl
      · rw [if_neg h2, if_neg h2]
theorem p_pop_or : ∀ w, w < 6 → ∀ k, k < 2 ^ w → p_pop (k ||| 2 ^ w) = p_pop k + 1 := by decide +kernel
theorem p_tks_pop : ∀ w, w ≤ 6 → ∃ k, k < 2 ^ w ∧ p_tks r w = nI k ∧ p_pop k = p_ct r w := by
  intro w
  induction w with
  | zero => intro _; exact ⟨0, by decide, rfl, rfl⟩
  | succ w ih =>
    intro hw
    obtain ⟨k, hk, ek, ep⟩ := ih (by omega)
    have h2 : 2 ^ w < 2 ^ (w + 1) := Nat.pow_lt_pow_right (by decide) (by omega)
    show ∃ k, k < 2 ^ (w + 1) ∧ p_tk (p_ones r w) w (p_tks r w) = nI k ∧ p_pop k = p_ct r (w + 1)
    unfold p_tk
    rw [ek, p_ct_s]
    by_cases h : p_heeded (p_ones r w) w < 0
    · rw [if_pos h, if_pos h]; exact ⟨k, by omega, rfl, ep⟩
    · rw [if_neg h, if_neg h]
      by_cases h3 : p_left (p_ones r w) w (p_n (p_heeded (p_ones r w) w)) = 0
      · rw [if_pos h3, if_pos h3]
        exact ⟨k ||| 2 ^ w, Nat.or_lt_two_pow (by omega) h2, by rw [p_bit_nI w (by omega), p_or_nI], by rw [p_pop_or w (by omega) k hk, ep]⟩
      · rw [if_neg h3, if_neg h3]; exact ⟨k, by omega, rfl, ep⟩
theorem p_T_pop {V : Nat} (hV : V ≤ 6) (e3 : r 3 = nI V) : p_pop (p_n (p_T r)) = p_ct r V := by
  obtain ⟨k, hk, ek, ep⟩ := p_tks_pop (r := r) V hV
  have h2 : 2 ^ V ≤ 2 ^ 6 := Nat.pow_le_pow_right (by decide) hV
  unfold p_T
  rw [e3, p_n_nI (by omega), ek, p_n_nI (by omega), ep]
theorem p_xh_15 {V : Nat} (e : Nat) (he : x 15 = nI e) : ∀ N, p_ok g (c + N) V r → p_xh x r V N 15 = nI (e + p_outs r N) := by
  intro N
  induction N generalizing c with
  | zero => intro _; exact he
  | succ N ih =>
    intro h
    have hN := ih (c := c + 1) (by rw [show c + 1 + N = c + (N + 1) by omega]; exact h)
    have hk := p_ok_hrs (g := g) (c := c + 1) (r := r) (V := V) N (by rw [show c + 1 + N = c + (N + 1) by omega]; exact h)
    show p_xs (p_xh x r V N) (p_hrs r N) V 15 = nI (e + (p_outs r N + p_pop (p_n (p_T (p_hrs r N)))))
    rw [p_xs_15 (e + p_outs r N) hN, p_T_pop hk.2.2.1 hk.2.1]
    exact congrArg nI (by omega)
/-- an eye goes from every side that holds it -/
theorem p_cms_at (e : Int32) : ∀ n i, p_cms r e n i = if 50 ≤ i ∧ i < 50 + 4 * n ∧ (i - 50) % 4 < 2 ∧ r i = e then -1 else r i := by
  intro n
  induction n with
  | zero => intro i; rw [if_neg (by omega)]; rfl
  | succ n ih =>
    intro i
    show p_cm1 (p_cms r e n) e n i = _
    unfold p_cm1 p_cm0 p_uo p_o upd
    by_cases h1 : i = 50 + 4 * n + 1
    · subst h1
      have e1 : p_cms r e n (50 + 4 * n + 1) = r (50 + 4 * n + 1) := by rw [ih, if_neg (by omega)]
      rw [if_pos rfl, if_neg (show ¬ 50 + 4 * n + 1 = 50 + 4 * n + 0 by omega), e1]
      by_cases h2 : r (50 + 4 * n + 1) = e
      · rw [if_pos h2, if_pos ⟨by omega, by omega, by omega, h2⟩]
      · rw [if_neg h2, if_neg (fun z => h2 z.2.2.2)]
    · rw [if_neg h1]
      by_cases h0 : i = 50 + 4 * n + 0
      · subst h0
        have e1 : p_cms r e n (50 + 4 * n + 0) = r (50 + 4 * n + 0) := by rw [ih, if_neg (by omega)]
        rw [if_pos rfl, e1]
        by_cases h2 : r (50 + 4 * n + 0) = e
        · rw [if_pos h2, if_pos ⟨by omega, by omega, by omega, h2⟩]
        · rw [if_neg h2, if_neg (fun z => h2 z.2.2.2)]
      · rw [if_neg h0, ih]
        by_cases h2 : 50 ≤ i ∧ i < 50 + 4 * n ∧ (i - 50) % 4 < 2 ∧ r i = e
        · rw [if_pos h2, if_pos ⟨by omega, by omega, by omega, h2.2.2.2⟩]
        · rw [if_neg h2, if_neg (fun z => h2 ⟨z.1, by omega, z.2.2.1, z.2.2.2⟩)]
theorem p_cms_tf {V j : Nat} (hV : V ≤ 6) (hu : p_uq V r) (hj : j < 8) : p_cms r (nI j) V = p_tf r (nI j) V := by
  have hm : ¬ nI j = -1 := fun z => absurd (show nI j < 0 by rw [z]; decide) (nI_pos (by omega))
  funext i
  rcases p_sk_in r (nI j) (2 * V) 0 with q | ⟨t, -, t2, t3, t4⟩
  · have e : p_tf r (nI j) V = r := by unfold p_tf; rw [if_neg hm, q, if_pos (by decide)]
    rw [e, p_cms_at, if_neg]
    intro z
    refine p_sk_no r (nI j) (2 * V) 0 (by omega) q (2 * ((i - 50) / 4) + (i - 50) % 4) (by omega) (by omega) ?_
    rw [show (2 * ((i - 50) / 4) + (i - 50) % 4) / 2 = (i - 50) / 4 by omega, show (2 * ((i - 50) / 4) + (i - 50) % 4) % 2 = (i - 50) % 4 by omega]
    unfold p_o
    rw [show 50 + 4 * ((i - 50) / 4) + (i - 50) % 4 = i by omega]
    exact z.2.2.2
  · have e : p_tf r (nI j) V = p_uo r (t / 2) (t % 2) (-1) := by unfold p_tf; rw [if_neg hm, t3, if_neg (nI_pos (by omega)), p_n_nI (by omega)]
    rw [e, p_cms_at]
    by_cases hi : i = 50 + 4 * (t / 2) + t % 2
    · have e2 : p_uo r (t / 2) (t % 2) (-1) i = -1 := by unfold p_uo upd; rw [if_pos hi]
      rw [e2, if_pos ⟨by omega, by omega, by omega, by rw [hi]; exact t4⟩]
    · have e2 : p_uo r (t / 2) (t % 2) (-1) i = r i := by unfold p_uo upd; rw [if_neg hi]
      rw [e2, if_neg]
      intro z
      have hz : p_o r ((i - 50) / 4) ((i - 50) % 4) = nI j := by
        unfold p_o
        rw [show 50 + 4 * ((i - 50) / 4) + (i - 50) % 4 = i by omega]
        exact z.2.2.2
      rcases hu (t / 2) ((i - 50) / 4) (t % 2) ((i - 50) % 4) (by omega) (by omega) (by omega) (by omega) (t4.trans hz.symm) with y1 | ⟨y1, y2⟩
      · rw [t4] at y1
        exact absurd y1 hm
      · omega
theorem p_come_tf {V w s : Nat} {e : Int32} (hV : V ≤ 6) (e3 : r 3 = nI V) (hu : p_uq V r) (he : p_e1 e) : p_uo (p_tf r e V) w s e = p_come r w s e := by
  unfold p_come
  rcases he with rfl | ⟨j, hj, rfl⟩
  · rw [if_pos (by decide)]; unfold p_tf; rw [if_pos rfl]
  · rw [if_neg (nI_pos (by omega)), e3, p_n_nI (by omega), p_cms_tf hV hu hj]
/-- who wears an eye, by the last and by the first who does -/
theorem p_wb_no (e : Int32) : ∀ n, (∀ w, w < n → ∀ s, s < 2 → ¬ p_o r w s = e) → p_wb r e n = -1 := by
  intro n
  induction n with
  | zero => intro _; rfl
  | succ n ih =>
    intro h
    rw [p_wb_s, if_neg (h n (by omega) 0 (by omega)), if_neg (h n (by omega) 1 (by omega))]
    exact ih (fun w hw s hs => h w (by omega) s hs)
theorem p_wb_at (e : Int32) {w s : Nat} (hs : s < 2) (h : p_o r w s = e) : ∀ n, w < n → (∀ w' s', w' < n → s' < 2 → p_o r w' s' = e → w' = w ∧ s' = s) → p_wb r e n = nI (10 * w + s) := by
  intro n
  induction n with
  | zero => intro h; omega
  | succ n ih =>
    intro hw hq
    rw [p_wb_s]
    by_cases h0 : p_o r n 0 = e
    · obtain ⟨a, b⟩ := hq n 0 (by omega) (by omega) h0
      rw [if_pos h0, a, ← b]
      exact pk_mul 10 w
    · rw [if_neg h0]
      by_cases h1 : p_o r n 1 = e
      · obtain ⟨a, b⟩ := hq n 1 (by omega) (by omega) h1
        rw [if_pos h1, a, ← b, show (10 : Int32) * nI w = nI (10 * w) from pk_mul 10 w]
        exact nI_1 _
      · rw [if_neg h1]
        have : w ≠ n := fun z => by
          subst z
          rcases (by omega : s = 0 ∨ s = 1) with rfl | rfl
          · exact h0 h
          · exact h1 h
        exact ih (by omega) (fun w' s' k1 k2 k3 => hq w' s' (by omega) k2 k3)
theorem p_sk_wb {V j : Nat} (hV : V ≤ 6) (hu : p_uq V r) (hj : j < 8) : (if 0 ≤ p_sk r (nI j) (2 * V) 0 then 10 * (p_sk r (nI j) (2 * V) 0 / 2) + p_rem (p_sk r (nI j) (2 * V) 0) 2 else -1) = p_wb r (nI j) V ∧ (p_sk r (nI j) (2 * V) 0 < 0 ↔ ¬ 0 ≤ p_wb r (nI j) V) := by
  rcases p_sk_in r (nI j) (2 * V) 0 with q | ⟨t, -, t2, t3, t4⟩
  · have hn := p_wb_no (r := r) (nI j) V (fun w hw s hs z => p_sk_no r (nI j) (2 * V) 0 (by omega) q (2 * w + s) (by omega) (by omega) (by rw [show (2 * w + s) / 2 = w by omega, show (2 * w + s) % 2 = s by omega]; exact z))
    rw [q, hn]
    decide
  · have ha := p_wb_at (r := r) (nI j) (w := t / 2) (s := t % 2) (by omega) t4 V (by omega) (fun w' s' k1 k2 k3 => by
      rcases hu w' (t / 2) s' (t % 2) k1 (by omega) k2 (by omega) (k3.trans t4.symm) with z | z
      · rw [k3] at z
        exact absurd (show nI j < 0 by rw [z]; decide) (nI_pos (by omega))
      · exact z)
    rw [t3, ha, if_pos (nI_pos' (by omega))]
    refine ⟨?_, ?_⟩
    · rw [show nI t / 2 = nI (t / 2) from pk_div (d := 2) (by omega) (by decide) (by decide), show p_rem (nI t) 2 = nI (t % 2) from p_rem_nI (d := 2) (by omega) (by decide) (by decide), show (10 : Int32) * nI (t / 2) = nI (10 * (t / 2)) from pk_mul 10 _, nI_add]
    · constructor
      · intro z; exact absurd z (nI_pos (by omega))
      · intro z; exact absurd (nI_pos' (by omega)) z
theorem p_we_ws {V : Nat} (hV : V ≤ 6) (hu : p_uq V r) : ∀ E, E ≤ 8 → p_we r V E = p_ws r V E := by
  intro E
  induction E with
  | zero => intro _; rfl
  | succ E ih =>
    intro hE
    rw [p_we_s]
    show _ = p_ws r V E ||| (if 0 ≤ p_wb r (nI E) V then (1 : Int32) <<< (nI E &&& 31) else 0)
    obtain ⟨-, hq⟩ := p_sk_wb (r := r) (j := E) hV hu (by omega)
    by_cases h : p_sk r (nI E) (2 * V) 0 < 0
    · rw [if_pos h, if_neg (hq.mp h), ih (by omega), Int32.or_zero]
    · rw [if_neg h, if_pos (Decidable.of_not_not (fun z => h (hq.mpr z))), ih (by omega)]
end Q3
