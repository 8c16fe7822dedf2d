/-! rows whose sides are changed -/
section Q6
variable {g : ge_G} {r r' x hb : Nat → Int32} {c V E : Nat}
/-- a row that differs in sides alone, and they are in order -/
theorem p_ok_side (h : p_ok g c V r) (e2 : r 2 = nI E) (hE : E ≤ 8) (hs : ∀ i, ¬ (50 ≤ i ∧ i < 74 ∧ (i - 50) % 4 < 2) → r' i = r i) (hv : ∀ w, w < V → ∀ s, s < 2 → p_o r' w s = -1 ∨ ∃ e, e < E ∧ p_o r' w s = nI e) (hu : p_uq V r') : p_ok g c V r' := by
  obtain ⟨⟨h1, h2, ⟨q, hq, eq⟩, ⟨E', hE', e2', W, hW, e3, -⟩, h5, h6, h7⟩, k2, k3, k4, k5⟩ := h
  have po : ∀ w, w < 6 → ∀ k, 2 ≤ k → k < 4 → p_o r' w k = p_o r w k := fun w hw k a b => hs _ (by omega)
  have pe : ∀ e, e < 8 → ∀ k, k < 4 → p_e r' e k = p_e r e k := fun e he k hk => hs _ (by omega)
  have pl : ∀ i, i < 18 → r' i = r i := fun i hi => hs _ (by omega)
  refine ⟨⟨p_sz_of (pl _ (by omega)) h1, p_sz_of (pl _ (by omega)) h2, ⟨q, hq, (pl 0 (by decide)).trans eq⟩, ⟨E, hE, (pl 2 (by decide)).trans e2, V, k3, (pl 3 (by decide)).trans k2, hv⟩, fun e he => by rw [pe e he _ (by decide), pe e he _ (by decide), pe e he _ (by decide), pe e he _ (by decide)]; exact h5 e he, fun w hw => by rw [po w hw _ (by decide) (by decide), po w hw _ (by decide) (by decide)]; exact h6 w hw, fun t ht => by rw [pl _ (by omega)]; exact h7 t ht⟩, (pl 3 (by decide)).trans k2, k3, hu, c_lw_of (pl 6 (by decide)) (pl 7 (by decide)) (fun i hi => hs i (by omega)) k5⟩
theorem p_ok_E (h : p_ok g c V r) : ∃ E, E ≤ 8 ∧ r 2 = nI E ∧ ∀ w, w < V → ∀ s, s < 2 → p_o r w s = -1 ∨ ∃ e, e < E ∧ p_o r w s = nI e := by
  obtain ⟨E, hE, e2, W, hW, e3, hv⟩ := h.1.2.2.2.1
  have : W = V := (nI_eq (by omega) (by have := h.2.2.1; omega)).mp (e3.symm.trans h.2.1)
  exact ⟨E, hE, e2, this ▸ hv⟩
theorem p_ok_EE (h : p_ok g c V r) (e2 : r 2 = nI E) (hE : E ≤ 8) : ∀ w, w < V → ∀ s, s < 2 → p_o r w s = -1 ∨ ∃ e, e < E ∧ p_o r w s = nI e := by
  obtain ⟨E', hE', e2', hv⟩ := p_ok_E h
  have : E' = E := (nI_eq (by omega) (by omega)).mp (e2'.symm.trans e2)
  exact this ▸ hv
theorem p_nm1 {j : Nat} (hj : j < 2 ^ 31) : ¬ nI j = -1 := fun z => absurd (show nI j < 0 by rw [z]; decide) (nI_pos hj)
theorem p_o_cms {e : Int32} {n w s : Nat} (hs : s < 4) : p_o (p_cms r e n) w s = if w < n ∧ s < 2 ∧ p_o r w s = e then -1 else p_o r w s := by
  unfold p_o
  rw [p_cms_at]
  by_cases h : w < n ∧ s < 2 ∧ r (50 + 4 * w + s) = e
  · rw [if_pos h, if_pos ⟨by omega, by omega, by omega, h.2.2⟩]
  · rw [if_neg h, if_neg (fun z => h ⟨by omega, by omega, z.2.2.2⟩)]
theorem p_ok_come {w s e : Nat} (h : p_ok g c V r) (e2 : r 2 = nI E) (hE : E ≤ 8) (hw : w < V) (hs : s < 2) (he : e < E) : p_ok g c V (p_come r w s (nI e)) := by
  have hV := h.2.2.1
  have hv := p_ok_EE h e2 hE
  have e3 := h.2.1
  have hn : p_n (r 3) = V := by rw [e3, p_n_nI (by omega)]
  have pc : p_come r w s (nI e) = p_uo (p_cms r (nI e) V) w s (nI e) := by unfold p_come; rw [if_neg (nI_pos (by omega)), hn]
  have po : ∀ w' s', s' < 2 → p_o (p_come r w s (nI e)) w' s' = if w' = w ∧ s' = s then nI e else if w' < V ∧ s' < 2 ∧ p_o r w' s' = nI e then -1 else p_o r w' s' := fun w' s' hs' => by
    rw [pc, p_o_uo _ _ _ _ _ _ (by omega) (by omega), p_o_cms (by omega)]
  refine p_ok_side h e2 hE (fun i hi => ?_) (fun w' hw' s' hs' => ?_) (fun w1 w2 s1 s2 a1 a2 a3 a4 hq => ?_)
  · rw [pc]
    unfold p_uo
    rw [pk_un (by omega), p_cms_at, if_neg (fun z => hi ⟨z.1, by omega, z.2.2.1⟩)]
  · rw [po w' s' hs']
    split
    · exact Or.inr ⟨e, he, rfl⟩
    · split
      · exact Or.inl rfl
      · exact hv w' hw' s' hs'
  · rw [po w1 s1 a3] at hq ⊢
    rw [po w2 s2 a4] at hq
    by_cases q1 : w1 = w ∧ s1 = s
    · rw [if_pos q1] at hq ⊢
      by_cases q2 : w2 = w ∧ s2 = s
      · exact Or.inr (by omega)
      · rw [if_neg q2] at hq
        by_cases q3 : w2 < V ∧ s2 < 2 ∧ p_o r w2 s2 = nI e
        · rw [if_pos q3] at hq; exact absurd hq (p_nm1 (by omega))
        · rw [if_neg q3] at hq; exact absurd ⟨a2, a4, hq.symm⟩ q3
    · rw [if_neg q1] at hq ⊢
      by_cases q3 : w1 < V ∧ s1 < 2 ∧ p_o r w1 s1 = nI e
      · rw [if_pos q3]; exact Or.inl rfl
      · rw [if_neg q3] at hq ⊢
        by_cases q2 : w2 = w ∧ s2 = s
        · rw [if_pos q2] at hq; exact absurd ⟨a1, a3, hq⟩ q3
        · rw [if_neg q2] at hq
          by_cases q4 : w2 < V ∧ s2 < 2 ∧ p_o r w2 s2 = nI e
          · rw [if_pos q4] at hq; exact Or.inl hq
          · rw [if_neg q4] at hq; exact h.2.2.2.1 w1 w2 s1 s2 a1 a2 a3 a4 hq
/-- an eye alone -/
def p_alone (r : Nat → Int32) (w e : Nat) : Nat → Int32 := p_uo (p_come r w 0 (nI e)) w 1 (-1)
theorem p_ok_alone {w e : Nat} (h : p_ok g c V r) (e2 : r 2 = nI E) (hE : E ≤ 8) (hw : w < V) (he : e < E) : p_ok g c V (p_alone r w e) :=
  p_ok_uo (p_ok_come h e2 hE hw (by decide) he) (by have := h.2.2.1; omega) (by decide) ⟨fun _ => rfl, fun z => by omega, fun z => by omega⟩
theorem p_alone_m {w e : Nat} (he : e < 8) : p_come (p_come r w 1 (-1)) w 0 (nI e) = p_alone r w e := by
  have c1 : p_come r w 1 (-1) = p_uo r w 1 (-1) := by unfold p_come; rw [if_pos (by decide)]
  rw [c1]
  unfold p_alone p_come
  rw [if_neg (nI_pos (by omega)), if_neg (nI_pos (by omega)), p_lo_uo r w 1 (-1) 3 (by omega)]
  funext i
  have hm : ¬ (-1 : Int32) = nI e := fun z => p_nm1 (by omega) z.symm
  unfold p_uo
  by_cases h1 : i = 50 + 4 * w + 0
  · rw [h1, pk_us, pk_un (by omega), pk_us]
  · by_cases h2 : i = 50 + 4 * w + 1
    · rw [pk_un h1, h2, pk_us, p_cms_at, pk_us, if_neg (fun z => hm z.2.2.2)]
    · rw [pk_un h1, pk_un h2, pk_un h1, p_cms_at, p_cms_at, pk_un h2]
/-- an eye lent into a side that is empty -/
theorem p_ok_lent {w s e : Nat} (h : p_ok g c V r) (e2 : r 2 = nI E) (hE : E ≤ 8) (hw : w < V) (hs : s < 2) (he : e < E) (hn : ∀ w', w' < V → ∀ s', s' < 2 → ¬ p_o r w' s' = nI e) : p_ok g c V (p_uo r w s (nI e)) := by
  have hV := h.2.2.1
  have hv := p_ok_EE h e2 hE
  have po : ∀ w' s', s' < 2 → p_o (p_uo r w s (nI e)) w' s' = if w' = w ∧ s' = s then nI e else p_o r w' s' := fun w' s' hs' => p_o_uo _ _ _ _ _ _ (by omega) (by omega)
  refine p_ok_side h e2 hE (fun i hi => ?_) (fun w' hw' s' hs' => ?_) (fun w1 w2 s1 s2 a1 a2 a3 a4 hq => ?_)
  · unfold p_uo; exact pk_un (by omega)
  · rw [po w' s' hs']
    split
    · exact Or.inr ⟨e, he, rfl⟩
    · exact hv w' hw' s' hs'
  · rw [po w1 s1 a3] at hq ⊢
    rw [po w2 s2 a4] at hq
    by_cases q1 : w1 = w ∧ s1 = s
    · rw [if_pos q1] at hq ⊢
      by_cases q2 : w2 = w ∧ s2 = s
      · exact Or.inr (by omega)
      · rw [if_neg q2] at hq; exact absurd hq.symm (hn w2 a2 s2 a4)
    · rw [if_neg q1] at hq ⊢
      by_cases q2 : w2 = w ∧ s2 = s
      · rw [if_pos q2] at hq; exact absurd hq (hn w1 a1 s1 a3)
      · rw [if_neg q2] at hq; exact h.2.2.2.1 w1 w2 s1 s2 a1 a2 a3 a4 hq
/-- two change what they wear -/
theorem p_o_swap {w o : Nat} (hwo : w ≠ o) {w' s' : Nat} (hs : s' < 2) : p_o (p_swap r w o) w' s' = if w' = w then p_o r o s' else if w' = o then p_o r w s' else p_o r w' s' := by
  unfold p_swap p_sw1
  rcases (by omega : s' = 0 ∨ s' = 1) with rfl | rfl
  · simp only [p_o_uo _ _ _ _ _ _ (show 0 < 4 by decide) (show 0 < 4 by decide), p_o_uo _ _ _ _ _ _ (show 1 < 4 by decide) (show 0 < 4 by decide)]
    by_cases h1 : w' = w
    · subst h1; simp [hwo]
    · by_cases h2 : w' = o
      · subst h2; simp [h1]
      · simp [h1, h2]
  · simp only [p_o_uo _ _ _ _ _ _ (show 1 < 4 by decide) (show 1 < 4 by decide), p_o_uo _ _ _ _ _ _ (show 0 < 4 by decide) (show 1 < 4 by decide)]
    by_cases h1 : w' = w
    · subst h1; simp [hwo]
    · by_cases h2 : w' = o
      · subst h2; simp [h1]
      · simp [h1, h2]
theorem p_ok_swap {w o : Nat} (h : p_ok g c V r) (e2 : r 2 = nI E) (hE : E ≤ 8) (hw : w < V) (ho : o < V) (hwo : w ≠ o) : p_ok g c V (p_swap r w o) := by
  have hV := h.2.2.1
  have hv := p_ok_EE h e2 hE
  refine p_ok_side h e2 hE (fun i hi => ?_) (fun w' hw' s' hs' => ?_) (fun w1 w2 s1 s2 a1 a2 a3 a4 hq => ?_)
  · unfold p_swap p_sw1 p_uo
    rw [pk_un (by omega), pk_un (by omega), pk_un (by omega), pk_un (by omega)]
  · rw [p_o_swap hwo hs']
    split
    · exact hv o ho s' hs'
    · split
      · exact hv w hw s' hs'
      · exact hv w' hw' s' hs'
  · rw [p_o_swap hwo a3] at hq ⊢
    rw [p_o_swap hwo a4] at hq
    have hu := h.2.2.2.1
    by_cases q1 : w1 = w
    · rw [if_pos q1] at hq ⊢
      by_cases q2 : w2 = w
      · rw [if_pos q2] at hq
        rcases hu o o s1 s2 ho ho a3 a4 hq with z | z
        · exact Or.inl z
        · exact Or.inr ⟨by omega, z.2⟩
      · rw [if_neg q2] at hq
        by_cases q3 : w2 = o
        · rw [if_pos q3] at hq
          rcases hu o w s1 s2 ho hw a3 a4 hq with z | z
          · exact Or.inl z
          · exact absurd z.1.symm hwo
        · rw [if_neg q3] at hq
          rcases hu o w2 s1 s2 ho a2 a3 a4 hq with z | z
          · exact Or.inl z
          · exact absurd z.1.symm q3
    · rw [if_neg q1] at hq ⊢
      by_cases q1' : w1 = o
      · rw [if_pos q1'] at hq ⊢
        by_cases q2 : w2 = w
        · rw [if_pos q2] at hq
          rcases hu w o s1 s2 hw ho a3 a4 hq with z | z
          · exact Or.inl z
          · exact absurd z.1 hwo
        · rw [if_neg q2] at hq
          by_cases q3 : w2 = o
          · rw [if_pos q3] at hq
            rcases hu w w s1 s2 hw hw a3 a4 hq with z | z
            · exact Or.inl z
            · exact Or.inr ⟨by omega, z.2⟩
          · rw [if_neg q3] at hq
            rcases hu w w2 s1 s2 hw a2 a3 a4 hq with z | z
            · exact Or.inl z
            · exact absurd z.1.symm q2
      · rw [if_neg q1'] at hq ⊢
        by_cases q2 : w2 = w
        · rw [if_pos q2] at hq
          rcases hu w1 o s1 s2 a1 ho a3 a4 hq with z | z
          · exact Or.inl z
          · exact absurd z.1 q1'
        · rw [if_neg q2] at hq
          by_cases q3 : w2 = o
          · rw [if_pos q3] at hq
            rcases hu w1 w s1 s2 a1 hw a3 a4 hq with z | z
            · exact Or.inl z
            · exact absurd z.1 q1
          · rw [if_neg q3] at hq
            exact hu w1 w2 s1 s2 a1 a2 a3 a4 hq
theorem p_sn_in (h : p_inv c r) : ∀ w, w ≤ 6 → ∃ k, k < 1024 ∧ p_sn r w = nI k := by
  intro w
  induction w with
  | zero => intro _; exact ⟨0, by decide, rfl⟩
  | succ w ih =>
    intro hw
    obtain ⟨k, hk, ek⟩ := ih (by omega)
    obtain ⟨j, hj, ej⟩ := (h.2.2.2.2.2.1 w (by omega)).2
    show ∃ k, k < 1024 ∧ p_sn r w ||| p_o r w 3 = nI k
    rw [ek, ej, p_or_nI]
    exact ⟨_, Nat.or_lt_two_pow (n := 10) hk hj, rfl⟩
/-- how many things are seen by anybody -/
def p_sb (r : Nat → Int32) (V : Nat) : Nat := p_pop (p_n (p_sn r V))
theorem p_sb_in (h : p_inv c r) (hV : V ≤ 6) : p_sn r V = nI (p_n (p_sn r V)) ∧ p_n (p_sn r V) < 1024 := by
  obtain ⟨k, hk, ek⟩ := p_sn_in h V hV
  rw [ek, p_n_nI (by omega)]
  exact ⟨rfl, hk⟩
theorem p_pop_le : ∀ k, k < 1024 → p_pop k ≤ 10 := by decide +kernel
theorem p_sb_le (h : p_inv c r) (hV : V ≤ 6) : p_sb r V ≤ 10 := p_pop_le _ (p_sb_in h hV).2
/-- the best of a row of numbers -/
def p_ef (b : Nat → Int32) (i0 : Int32) : Nat → Int32 × Int32
  | 0 => (i0, -1)
  | e + 1 => if (p_ef b i0 e).2 < b e then (nI e, b e) else p_ef b i0 e
theorem p_ef_i (b : Nat → Int32) (i0 i1 : Int32) (h : 0 ≤ b 0) : ∀ e, p_ef b i0 (e + 1) = p_ef b i1 (e + 1) := by
  intro e
  induction e with
  | zero =>
    have : (-1 : Int32) < b 0 := Int32.lt_of_lt_of_le (by decide) h
    show (if (-1 : Int32) < b 0 then (nI 0, b 0) else _) = (if (-1 : Int32) < b 0 then (nI 0, b 0) else _)
    rw [if_pos this, if_pos this]
  | succ e ih =>
    show (if (p_ef b i0 (e + 1)).2 < b (e + 1) then (nI (e + 1), b (e + 1)) else p_ef b i0 (e + 1)) = (if (p_ef b i1 (e + 1)).2 < b (e + 1) then (nI (e + 1), b (e + 1)) else p_ef b i1 (e + 1))
    rw [ih]
/-- a bit, and a sum of bits -/
def p_ob (v t : Int32) : Nat := p_n ((v >>> (t &&& 31)) &&& 1)
theorem p_ob_in (v t : Int32) : (v >>> (t &&& 31)) &&& 1 = nI (p_ob v t) ∧ p_ob v t ≤ 1 := by
  obtain ⟨j, hj, ej⟩ := pk_andE (v >>> (t &&& 31)) (m := 1) 1 (by decide)
  unfold p_ob
  rw [ej, p_n_nI (by omega)]
  exact ⟨rfl, by omega⟩
def p_os (b : Nat → Int32) (t : Int32) : Nat → Nat
  | 0 => 0
  | e + 1 => p_os b t e + p_ob (b e) t
theorem p_os_le (b : Nat → Int32) (t : Int32) : ∀ e, p_os b t e ≤ e := by
  intro e
  induction e with
  | zero => exact Nat.le_refl _
  | succ e ih => have := (p_ob_in (b e) t).2; show p_os b t e + p_ob (b e) t ≤ e + 1; omega
def p_cdf (a b : Nat) : Nat → Nat
  | 0 => 1
  | d + 1 => if 0 < d ∧ a % (d + 1) = 0 ∧ b % (d + 1) = 0 then d + 1 else p_cdf a b d
theorem p_cdf_gcd : ∀ a, a ≤ 8 → ∀ b, b ≤ 8 → 0 < b → p_cdf a b b = Nat.gcd a b := by decide +kernel
end Q6
