section U4
variable {X : ge_X} {n : Nat} {G : ge_G} {c V E : Nat}
section U40
variable {g g1 g2 G2 : ge_G} {r r1 x x1 hb hb1 f f1 : Nat → Int32} {y1 y2 : ge_Y} {d1 d2 : Nat} {a1 a2 : List Value} {v v2 b : Int32}
theorem i_J_S (h : ∀ q, ge_L q → ¬ (67 ≤ q ∧ q ≤ 74) → ¬ (82 ≤ q ∧ q ≤ 84) → g2 q = g q) (hs : ∀ s, s < 4 → i_sh g2 s) (hf : f1 4 = f 4 ∧ f1 5 = f 5 ∧ f1 22 = f 22) (hx : x1 18 = -1) (hJ : i_J n g r x f) : i_J (n + 1) g2 r x1 f1 := by
  obtain ⟨⟨V, a1⟩, a2, a3, -, a5, a6, a7, a8⟩ := hJ
  have h' : ∀ q, q ≤ 2 ∨ (13 ≤ q ∧ q ≤ 16) ∨ (20 ≤ q ∧ q ≤ 23) ∨ (45 ≤ q ∧ q ≤ 54) ∨ (58 ≤ q ∧ q ≤ 65) ∨ q = 75 ∨ q = 78 ∨ q = 81 ∨ q = 86 → g2 q = g q := fun q hq => h q (by unfold ge_L; omega) (by omega) (by omega)
  exact ⟨⟨V, p_ok_P (fun q q1 q2 => h' q (by omega)) a1⟩, i_tape_P (h' 58 (by omega)) (h' 59 (by omega)) a2, i_wait_P (h' 62 (by omega)) (h' 63 (by omega)) a3, hs, i_er_P (h' 75 (by omega)) (h' 81 (by omega)) a5, i_tr_P (fun q hq => h' q (by omega)) hf.2.2 a6, i_im_P (fun q hq => h' q (by omega)) hf.1 hf.2.1 a7, hx⟩
theorem i_sh_O {s : Nat} (h2 : g2 82 s = g 82 s) (h3 : g2 83 s = g 83 s) (hp : g2 (67 + 2 * s) = g (67 + 2 * s)) (hq : g2 (68 + 2 * s) = g (68 + 2 * s)) (h4 : ∀ k, k < 40 → g2 84 (40 * s + k) = g 84 (40 * s + k)) (hi : i_sh g s) : i_sh g2 s := by
  obtain ⟨b, m, q1, q2, q3, q4, q5, q6, q7⟩ := hi
  refine ⟨b, m, q1, q2, h2.trans q3, by rw [hp]; exact q4, h3.trans q5, by rw [hp]; exact q6, fun k hk => ?_⟩
  rw [hq, h4 k (by omega)]
  exact q7 k hk
/-- numbers of a sheet, as the two sides keep them -/
theorem p_lown {t N : Nat} (hN : N = 8 ∨ N = 16) (w : BitVec N) (ht : t < 10) : w.setWidth 32 = BitVec.ofNat 32 t ↔ w.signExtend 32 = BitVec.ofNat 32 t := by
  rw [← BitVec.toNat_inj, ← BitVec.toNat_inj, BitVec.toNat_signExtend, BitVec.toNat_setWidth, BitVec.toNat_ofNat]
  have hw := w.isLt
  rcases hN with rfl | rfl
  · cases hm : w.msb
    · simp
    · have := BitVec.msb_eq_decide w
      rw [hm] at this
      have h2 := of_decide_eq_true this.symm
      simp at h2 ⊢
      omega
  · cases hm : w.msb
    · simp
    · have := BitVec.msb_eq_decide w
      rw [hm] at this
      have h2 := of_decide_eq_true this.symm
      simp at h2 ⊢
      omega
theorem p_low8 (z : Int32) : (z &&& 255).toBitVec = (z.toBitVec.setWidth 8).setWidth 32 := by
  have := pk_and z (m := 255) 8 (by decide)
  rw [this, ← BitVec.toNat_inj, pk_tn (by omega)]
  simp
  omega
theorem p_low16 (z : Int32) : (z &&& 65535).toBitVec = (z.toBitVec.setWidth 16).setWidth 32 := by
  have := pk_and z (m := 65535) 16 (by decide)
  rw [this, ← BitVec.toNat_inj, pk_tn (by omega)]
  simp
  omega
theorem p_lwn (hb : b = 0 ∨ b = 8 ∨ b = 16 ∨ b = 32) (z : Int32) {t : Nat} (ht : t < 10) : p_low b z = nI t ↔ p_nar b z = nI t := by
  unfold p_low p_nar
  rcases hb with rfl | rfl | rfl | rfl
  · exact Iff.rfl
  · rw [if_pos rfl, if_pos rfl, ← Int32.toBitVec_inj, ← Int32.toBitVec_inj, p_low8]
    show _ ↔ (z.toBitVec.signExtend 8).signExtend 32 = _
    rw [BitVec.signExtend_eq_setWidth_of_le (v := 8) z.toBitVec (by decide)]
    exact p_lown (Or.inl rfl) (z.toBitVec.setWidth 8) ht
  · rw [if_neg (by decide), if_pos rfl, if_neg (by decide), if_pos rfl, ← Int32.toBitVec_inj, ← Int32.toBitVec_inj, p_low16]
    show _ ↔ (z.toBitVec.signExtend 16).signExtend 32 = _
    rw [BitVec.signExtend_eq_setWidth_of_le (v := 16) z.toBitVec (by decide)]
    exact p_lown (Or.inr rfl) (z.toBitVec.setWidth 16) ht
  · exact Iff.rfl
theorem p_low_0 (hb : b = 0 ∨ b = 8 ∨ b = 16 ∨ b = 32) : p_low b 0 = 0 ∧ p_nar b 0 = 0 := by
  rcases hb with rfl | rfl | rfl | rfl <;> decide
theorem p_in09 {z : Int32} : ¬ p_in z 0 9 = 0 ↔ ∃ t, t < 10 ∧ z = nI t := by
  constructor
  · intro h
    obtain ⟨a, -, h2, e⟩ := p_in_x (lo := 0) (hi := 9) rfl rfl (by decide) (by decide) h
    exact ⟨a, by omega, e⟩
  · rintro ⟨t, ht, rfl⟩
    unfold p_in
    rw [if_neg (nI_pos (by omega)), if_neg (show ¬ (9 : Int32) < nI t from nI_nlt (b := t) (a := 9) (by omega) (by decide))]
    decide
theorem p_hold_x {M : Nat} {i z : Int32} (hM : M ≤ 40) (h : ¬ p_hold (nI M) i z = 0) : ∃ a m, i = nI a ∧ z = nI m ∧ a + m ≤ M := by
  unfold p_hold at h
  by_cases h1 : i < 0
  · exact absurd (if_pos h1) h
  · rw [if_neg h1] at h
    by_cases h2 : z < 0
    · exact absurd (if_pos h2) h
    · rw [if_neg h2] at h
      by_cases h3 : nI M - z < i
      · exact absurd (if_pos h3) h
      · obtain ⟨a, ha, rfl⟩ := nI_of h1
        obtain ⟨m, hm, rfl⟩ := nI_of h2
        by_cases h4 : m ≤ M
        · rw [pk_sub h4] at h3
          have := (nI_leI ha (by omega)).mp (Int32.not_lt.mp h3)
          exact ⟨a, m, rfl, rfl, by omega⟩
        · exfalso
          apply h3
          have h5 : nI M - nI m < 0 := by
            rw [Int32.lt_iff_toInt_lt, Int32.toInt_sub, nI_toInt (by omega), nI_toInt hm]
            rw [Int.bmod_eq_of_le (by omega) (by omega)]
            show (M : Int) - m < 0
            omega
          exact Int32.lt_of_lt_of_le h5 (nI_pos' ha)
/-- a sheet's numbers, told alike -/
def i_al (h h' : Nat → Int32) (m : Nat) : Prop := ∀ k, k < m → ∀ t, t < 10 → (h k = nI t ↔ h' k = nI t)
theorem i_sh_al {s : Nat} (h : i_sh g s) {m : Nat} (hm : g 83 s = nI m) (hm2 : m ≤ 40) : i_al (g (68 + 2 * s)) (fun k => g 84 (40 * s + k)) m := by
  obtain ⟨b, m', q1, q2, q3, q4, q5, q6, q7⟩ := h
  obtain rfl : m' = m := (nI_eq (by omega) (by omega)).mp (q5.symm.trans hm)
  intro k hk t ht
  obtain ⟨v, e1, e2⟩ := q7 k hk
  show g (68 + 2 * s) k = nI t ↔ g 84 (40 * s + k) = nI t
  rw [e1, e2]
  exact p_lwn q1 v ht
theorem i_al_in {h h' : Nat → Int32} {m k : Nat} (hh : i_al h h' m) (hk : k < m) : (p_in (h k) 0 9 = 0 ↔ p_in (h' k) 0 9 = 0) ∧ (¬ p_in (h k) 0 9 = 0 → h k = h' k) := by
  constructor
  · constructor
    · intro q
      apply Classical.byContradiction
      intro z
      obtain ⟨t, ht, e⟩ := p_in09.mp z
      exact p_in09.mpr ⟨t, ht, (hh k hk t ht).mpr e⟩ q
    · intro q
      apply Classical.byContradiction
      intro z
      obtain ⟨t, ht, e⟩ := p_in09.mp z
      exact p_in09.mpr ⟨t, ht, (hh k hk t ht).mp e⟩ q
  · intro z
    obtain ⟨t, ht, e⟩ := p_in09.mp z
    rw [e, (hh k hk t ht).mp e]
theorem p_bsr_al {h h' : Nat → Int32} {N : Nat} (hh : i_al h h' N) : ∀ m i r, i + m ≤ N → p_bsr h m i r = p_bsr h' m i r := by
  intro m
  induction m with
  | zero => intro i r _; rfl
  | succ m ih =>
    intro i r hi
    obtain ⟨k1, k2⟩ := i_al_in hh (k := i) (by omega)
    show (if p_in (h i) 0 9 = 0 then (r, i) else p_bsr h m (i + 1) (p_ue r i 2 (h i))) = (if p_in (h' i) 0 9 = 0 then (r, i) else p_bsr h' m (i + 1) (p_ue r i 2 (h' i)))
    by_cases q : p_in (h i) 0 9 = 0
    · rw [if_pos q, if_pos (k1.mp q)]
    · rw [if_neg q, if_neg (fun z => q (k1.mpr z)), k2 q, ih (i + 1) _ (by omega)]
theorem p_bsr_ok {h : Nat → Int32} : ∀ m i r, i + m ≤ 8 → p_ok g c V r → p_ok g c V (p_bsr h m i r).1 := by
  intro m
  induction m with
  | zero => intro i r _ hr; exact hr
  | succ m ih =>
    intro i r hi hr
    show p_ok g c V (if p_in (h i) 0 9 = 0 then (r, i) else p_bsr h m (i + 1) (p_ue r i 2 (h i))).1
    by_cases q : p_in (h i) 0 9 = 0
    · rw [if_pos q]; exact hr
    · rw [if_neg q]
      obtain ⟨t, ht, e⟩ := p_in09.mp q
      exact ih (i + 1) _ (by omega) (p_ok_ue hr (by omega) (by decide) ⟨fun z => by omega, fun z => by omega, fun _ => ⟨t, by omega, e⟩, fun z => by omega⟩)
theorem p_bsr_o {h : Nat → Int32} {j : Nat} (hj : j < 18 ∨ 50 ≤ j) : ∀ m i r, i + m ≤ 8 → (p_bsr h m i r).1 j = r j := by
  intro m
  induction m with
  | zero => intro i r _; rfl
  | succ m ih =>
    intro i r hi
    show (if p_in (h i) 0 9 = 0 then (r, i) else p_bsr h m (i + 1) (p_ue r i 2 (h i))).1 j = r j
    by_cases q : p_in (h i) 0 9 = 0
    · rw [if_pos q]
    · rw [if_neg q, ih (i + 1) _ (by omega)]
      unfold p_ue
      rw [pk_un (by omega)]
theorem p_ju_al {h h' s : Nat → Int32} {N : Nat} (hh : i_al h h' N) (hs : ∀ k, k < N → ∃ t, t < 10 ∧ s k = nI t) {m : Nat} (hm : m ≤ N) : p_ju h s m 0 = p_ju h' s m 0 := by
  refine p_ju_cg m 0 (fun k _ k2 => ?_)
  obtain ⟨t, ht, e⟩ := hs k (by omega)
  rw [e]
  exact hh k (by omega) t ht
theorem p_wsF_cg {P P' : Nat → Bool} : ∀ E, (∀ e, e < E → P e = P' e) → p_wsF P E = p_wsF P' E := by
  intro E
  induction E with
  | zero => intro _; rfl
  | succ E ih =>
    intro h
    show (if P E = true then p_wsF P E ||| ((1 : Int32) <<< (nI E &&& 31)) else p_wsF P E) = (if P' E = true then p_wsF P' E ||| ((1 : Int32) <<< (nI E &&& 31)) else p_wsF P' E)
    rw [h E (by omega), ih (fun e he => h e (by omega))]
theorem p_so_al {h h' : Nat → Int32} {N E : Nat} (hh : i_al h h' N) (hN : N ≤ 40) (hI : p_inv 10000 r) (hE : E ≤ 8) : p_wsF (p_so h r N) E = p_wsF (p_so h' r N) E := by
  refine p_wsF_cg E (fun e he => ?_)
  unfold p_so
  rw [p_ju_al hh (s := p_sE r e) (fun k hk => p_shows_in (p_inv_ssr (c := 10000 - k) (by omega) k (by rw [show 10000 - k + k = 10000 by omega]; exact hI)) (by omega)) (Nat.le_refl _)]
/-- another sheet on both sides -/
theorem st_sheet {S m : Nat} (hS : S < 4) (hb : b = 0 ∨ b = 8 ∨ b = 16 ∨ b = 32) (hm2 : m ≤ 40) (hG : ge_ag ge_SH G (ge_k g 25 r x hb1)) (hJ : i_J n g r x f) (e7 : g 77 = r) (e6 : g 76 = f)
    (hc : ge_N X ge_SH y1 d1 a1 (ge_k g 25 r x hb1) (some (.int v)) (ge_k (ge_row (ge_up (ge_up g (67 + 2 * S) 2 b) (67 + 2 * S) 1 (nI m)) (68 + 2 * S) (fun j => if j < m then 0 else g (68 + 2 * S) j)) 25 r x hb1)) (hv : v2 = v)
    (hm : ∀ G', ge_N X ge_SH y2 d2 a2 (ge_m G' r f) (some (.int v2)) (ge_m (ge_row (ge_up (ge_up G' 82 S b) 83 S (nI m)) 84 (fun j => if 40 * S ≤ j ∧ j < 40 * S + 40 then 0 else G' 84 j)) r f)) (hd1 : d1 ≤ 1500) (hd2 : d2 ≤ 1500) : st_is X n G y1 y2 a1 a2 := by
  generalize hg1 : ge_row (ge_up (ge_up g (67 + 2 * S) 2 b) (67 + 2 * S) 1 (nI m)) (68 + 2 * S) (fun j => if j < m then 0 else g (68 + 2 * S) j) = g1 at hc
  have ho : ∀ q, q ≠ 67 + 2 * S → q ≠ 68 + 2 * S → g1 q = g q := fun q h1 h2 => by rw [← hg1, ge_row_ne _ _ h2, ge_up_row _ _ _ h1, ge_up_row _ _ _ h1]
  refine st_go hG hc ((ho 77 (by omega) (by omega)).trans e7) ((ho 76 (by omega) (by omega)).trans e6) hv (hm _) (fun q h1 h2 => by rw [ge_row_ne _ _ (by omega), ge_up_row _ _ _ (by omega), ge_up_row _ _ _ (by omega)]) ?_ hd1 hd2
  generalize hg2 : ge_m (ge_row (ge_up (ge_up (ge_k g1 25 r x hb1) 82 S b) 83 S (nI m)) 84 (fun j => if 40 * S ≤ j ∧ j < 40 * S + 40 then 0 else ge_k g1 25 r x hb1 84 j)) r f = g2
  have h2 : ∀ q, q < 25 ∨ 34 < q → q ≠ 76 → q ≠ 77 → ¬ (82 ≤ q ∧ q ≤ 84) → g2 q = g1 q := fun q h3 h4 h5 h6 => by
    rw [← hg2, ge_m_o _ _ _ h5 h4, ge_row_ne _ _ (by omega), ge_up_row _ _ _ (by omega), ge_up_row _ _ _ (by omega), ge_k_o _ _ _ _ _ (by omega)]
  have h82 : g2 82 = upd (g 82) S b := by
    rw [← hg2, ge_m_o _ _ _ (by decide) (by decide), ge_row_ne _ _ (by decide), ge_up_row _ _ _ (by decide), ge_up_is, ge_k_o _ _ _ _ _ (by decide), ho 82 (by omega) (by omega)]
  have h83 : g2 83 = upd (g 83) S (nI m) := by
    rw [← hg2, ge_m_o _ _ _ (by decide) (by decide), ge_row_ne _ _ (by decide), ge_up_is, ge_up_row _ _ _ (by decide), ge_k_o _ _ _ _ _ (by decide), ho 83 (by omega) (by omega)]
  have h84 : ∀ j, g2 84 j = if 40 * S ≤ j ∧ j < 40 * S + 40 then 0 else g 84 j := fun j => by
    rw [← hg2, ge_m_o _ _ _ (by decide) (by decide), ge_row_self, ge_k_o _ _ _ _ _ (by decide), ho 84 (by omega) (by omega)]
  refine i_J_S (fun q hq n1 n2 => ?_) (fun s hs => ?_) ⟨rfl, rfl, rfl⟩ hJ.2.2.2.2.2.2.2 hJ
  · unfold ge_L at hq
    rw [h2 q (by omega) (by omega) (by omega) n2, ho q (by omega) (by omega)]
  · by_cases e : s = S
    · subst e
      refine ⟨b, m, hb, hm2, by rw [h82, pk_us], ?_, by rw [h83, pk_us], ?_, fun k hk => ⟨0, ?_, ?_⟩⟩
      · rw [h2 _ (by omega) (by omega) (by omega) (by omega), ← hg1, ge_row_ne _ _ (by omega), ge_up_is, pk_un (by decide), ge_up_is, pk_us]
      · rw [h2 _ (by omega) (by omega) (by omega) (by omega), ← hg1, ge_row_ne _ _ (by omega), ge_up_is, pk_us]
      · rw [h2 _ (by omega) (by omega) (by omega) (by omega), ← hg1, ge_row_self, if_pos hk, (p_low_0 hb).1]
      · rw [h84, if_pos (by omega), (p_low_0 hb).2]
    · refine i_sh_O ?_ ?_ ?_ ?_ (fun k hk => ?_) (hJ.2.2.2.1 s hs)
      · rw [h82, pk_un e]
      · rw [h83, pk_un e]
      · rw [h2 _ (by omega) (by omega) (by omega) (by omega), ho _ (by omega) (by omega)]
      · rw [h2 _ (by omega) (by omega) (by omega) (by omega), ho _ (by omega) (by omega)]
      · rw [h84, if_neg (by omega)]
/-- one number of a sheet -/
theorem st_put {S a m : Nat} {z : Int32} (hS : S < 4) (hm2 : m ≤ 40) (ha : a < m) (h83 : g 83 S = nI m) (hG : ge_ag ge_SH G (ge_k g 25 r x hb1)) (hJ : i_J n g r x f) (e7 : g 77 = r) (e6 : g 76 = f)
    (hc : ge_N X ge_SH y1 d1 a1 (ge_k g 25 r x hb1) (some (.int v)) (ge_k (ge_up g (68 + 2 * S) a (p_low (g (67 + 2 * S) 2) z)) 25 r x hb1)) (hv : v2 = v)
    (hm : ge_N X ge_SH y2 d2 a2 (ge_m (ge_k (ge_up g (68 + 2 * S) a (p_low (g (67 + 2 * S) 2) z)) 25 r x hb1) r f) (some (.int v2)) (ge_m (ge_up (ge_k (ge_up g (68 + 2 * S) a (p_low (g (67 + 2 * S) 2) z)) 25 r x hb1) 84 (40 * S + a) (p_nar (ge_k (ge_up g (68 + 2 * S) a (p_low (g (67 + 2 * S) 2) z)) 25 r x hb1 82 S) z)) r f)) (hd1 : d1 ≤ 1500) (hd2 : d2 ≤ 1500) : st_is X n G y1 y2 a1 a2 := by
  have hk82 : ge_k (ge_up g (68 + 2 * S) a (p_low (g (67 + 2 * S) 2) z)) 25 r x hb1 82 S = g 82 S := by rw [ge_k_o _ _ _ _ _ (by decide), ge_up_row _ _ _ (by omega)]
  rw [hk82] at hm
  refine st_go hG hc (by rw [ge_up_row _ _ _ (by omega)]; exact e7) (by rw [ge_up_row _ _ _ (by omega)]; exact e6) hv hm (fun q h1 h2 => ge_up_row _ _ _ (by omega)) ?_ hd1 hd2
  generalize hg2 : ge_m (ge_up (ge_k (ge_up g (68 + 2 * S) a (p_low (g (67 + 2 * S) 2) z)) 25 r x hb1) 84 (40 * S + a) (p_nar (g 82 S) z)) r f = g2
  have h2 : ∀ q, q < 25 ∨ 34 < q → q ≠ 76 → q ≠ 77 → q ≠ 84 → q ≠ 68 + 2 * S → g2 q = g q := fun q h3 h4 h5 h6 h7 => by
    rw [← hg2, ge_m_o _ _ _ h5 h4, ge_up_row _ _ _ h6, ge_k_o _ _ _ _ _ (by omega), ge_up_row _ _ _ h7]
  have h68 : g2 (68 + 2 * S) = upd (g (68 + 2 * S)) a (p_low (g (67 + 2 * S) 2) z) := by
    rw [← hg2, ge_m_o _ _ _ (by omega) (by omega), ge_up_row _ _ _ (by omega), ge_k_o _ _ _ _ _ (by omega), ge_up_is]
  have h84 : g2 84 = upd (g 84) (40 * S + a) (p_nar (g 82 S) z) := by
    rw [← hg2, ge_m_o _ _ _ (by decide) (by decide), ge_up_is, ge_k_o _ _ _ _ _ (by decide), ge_up_row _ _ _ (by omega)]
  refine i_J_S (fun q hq n1 n2 => ?_) (fun s hs => ?_) ⟨rfl, rfl, rfl⟩ hJ.2.2.2.2.2.2.2 hJ
  · unfold ge_L at hq
    exact h2 q (by omega) (by omega) (by omega) (by omega) (by omega)
  · by_cases e : s = S
    · subst e
      obtain ⟨b, m', q1, q2, q3, q4, q5, q6, q7⟩ := hJ.2.2.2.1 s hs
      refine ⟨b, m', q1, q2, by rw [h2 82 (by omega) (by omega) (by omega) (by omega) (by omega)]; exact q3, by rw [h2 _ (by omega) (by omega) (by omega) (by omega) (by omega)]; exact q4, by rw [h2 83 (by omega) (by omega) (by omega) (by omega) (by omega)]; exact q5, by rw [h2 _ (by omega) (by omega) (by omega) (by omega) (by omega)]; exact q6, fun k hk => ?_⟩
      rw [h68, h84]
      by_cases w : k = a
      · subst w
        exact ⟨z, by rw [pk_us, q4], by rw [pk_us, q3]⟩
      · rw [pk_un w, pk_un (by omega)]
        exact q7 k hk
    · refine i_sh_O ?_ ?_ ?_ ?_ (fun k hk => ?_) (hJ.2.2.2.1 s hs)
      · rw [h2 82 (by omega) (by omega) (by omega) (by omega) (by omega)]
      · rw [h2 83 (by omega) (by omega) (by omega) (by omega) (by omega)]
      · rw [h2 _ (by omega) (by omega) (by omega) (by omega) (by omega)]
      · rw [h2 _ (by omega) (by omega) (by omega) (by omega) (by omega)]
      · rw [h84, pk_un (by omega)]
/-- numbers moved from a sheet to a sheet -/
theorem st_move {S O a b m nS nO : Nat} (hS : S < 4) (hO : O < 4) (hk : g 82 S = g 82 O) (hnS : g 83 S = nI nS) (hnO : g 83 O = nI nO) (q1 : a + m ≤ nS) (q2 : b + m ≤ nO) (q3 : nS ≤ 40) (q4 : nO ≤ 40) (hG : ge_ag ge_SH G (ge_k g 25 r x hb1)) (hJ : i_J n g r x f) (e7 : g 77 = r) (e6 : g 76 = f)
    (hc : ge_N X ge_SH y1 d1 a1 (ge_k g 25 r x hb1) (some (.int v)) (ge_k (ge_row g (68 + 2 * O) (va_cpy (g (68 + 2 * S)) (g (68 + 2 * O)) a b m)) 25 r x hb1)) (hv : v2 = v)
    (hm : ∀ G', G' 82 = g 82 → G' 83 = g 83 → ge_N X ge_SH y2 d2 a2 (ge_m G' r f) (some (.int v2)) (ge_m (ge_row (ge_row G' 85 (fun k => if k < m then G' 84 (40 * S + a + k) else G' 85 k)) 84 (fun k => if 40 * O + b ≤ k ∧ k < 40 * O + b + m then G' 84 (40 * S + a + (k - (40 * O + b))) else G' 84 k)) r f)) (hd1 : d1 ≤ 1500) (hd2 : d2 ≤ 1500) : st_is X n G y1 y2 a1 a2 := by
  generalize hg1 : ge_row g (68 + 2 * O) (va_cpy (g (68 + 2 * S)) (g (68 + 2 * O)) a b m) = g1 at hc
  have ho : ∀ q, q ≠ 68 + 2 * O → g1 q = g q := fun q h2 => by rw [← hg1, ge_row_ne _ _ h2]
  have hm' := hm (ge_k g1 25 r x hb1) (by rw [ge_k_o _ _ _ _ _ (by decide), ho _ (by omega)]) (by rw [ge_k_o _ _ _ _ _ (by decide), ho _ (by omega)])
  refine st_go hG hc ((ho 77 (by omega)).trans e7) ((ho 76 (by omega)).trans e6) hv hm' (fun q h1 h2 => by rw [ge_row_ne _ _ (by omega), ge_row_ne _ _ (by omega)]) ?_ hd1 hd2
  generalize hg2 : ge_m (ge_row (ge_row (ge_k g1 25 r x hb1) 85 (fun k => if k < m then ge_k g1 25 r x hb1 84 (40 * S + a + k) else ge_k g1 25 r x hb1 85 k)) 84 (fun k => if 40 * O + b ≤ k ∧ k < 40 * O + b + m then ge_k g1 25 r x hb1 84 (40 * S + a + (k - (40 * O + b))) else ge_k g1 25 r x hb1 84 k)) r f = g2
  have h2 : ∀ q, q < 25 ∨ 34 < q → q ≠ 76 → q ≠ 77 → q ≠ 84 → q ≠ 85 → q ≠ 68 + 2 * O → g2 q = g q := fun q h3 h4 h5 h6 h7 h8 => by
    rw [← hg2, ge_m_o _ _ _ h5 h4, ge_row_ne _ _ h6, ge_row_ne _ _ h7, ge_k_o _ _ _ _ _ (by omega), ho q h8]
  have h68 : g2 (68 + 2 * O) = va_cpy (g (68 + 2 * S)) (g (68 + 2 * O)) a b m := by
    rw [← hg2, ge_m_o _ _ _ (by omega) (by omega), ge_row_ne _ _ (by omega), ge_row_ne _ _ (by omega), ge_k_o _ _ _ _ _ (by omega), ← hg1, ge_row_self]
  have h84 : ∀ k, g2 84 k = if 40 * O + b ≤ k ∧ k < 40 * O + b + m then g 84 (40 * S + a + (k - (40 * O + b))) else g 84 k := fun k => by
    rw [← hg2, ge_m_o _ _ _ (by decide) (by decide), ge_row_self, ge_k_o _ _ _ _ _ (by decide), ho 84 (by omega)]
  refine i_J_S (fun q hq n1 n2 => ?_) (fun s hs => ?_) ⟨rfl, rfl, rfl⟩ hJ.2.2.2.2.2.2.2 hJ
  · unfold ge_L at hq
    exact h2 q (by omega) (by omega) (by omega) (by omega) (by omega) (by omega)
  · by_cases e : s = O
    · subst e
      obtain ⟨b1, m1, p1, p2, p3, p4, p5, p6, p7⟩ := hJ.2.2.2.1 s hs
      obtain ⟨b2, m2, r1, r2, r3, r4, r5, r6, r7⟩ := hJ.2.2.2.1 S hS
      obtain rfl : m1 = nO := (nI_eq (by omega) (by omega)).mp (p5.symm.trans hnO)
      obtain rfl : m2 = nS := (nI_eq (by omega) (by omega)).mp (r5.symm.trans hnS)
      obtain rfl : b2 = b1 := r3.symm.trans (hk.trans p3)
      refine ⟨b2, m1, p1, p2, by rw [h2 82 (by omega) (by omega) (by omega) (by omega) (by omega) (by omega)]; exact p3, by rw [h2 _ (by omega) (by omega) (by omega) (by omega) (by omega) (by omega)]; exact p4, by rw [h2 83 (by omega) (by omega) (by omega) (by omega) (by omega) (by omega)]; exact p5, by rw [h2 _ (by omega) (by omega) (by omega) (by omega) (by omega) (by omega)]; exact p6, fun k hk => ?_⟩
      rw [h68, h84]
      unfold va_cpy
      by_cases w : b ≤ k ∧ k < b + m
      · rw [if_pos w, if_pos (by omega), show 40 * S + a + (40 * s + k - (40 * s + b)) = 40 * S + (a + (k - b)) by omega]
        exact r7 (a + (k - b)) (by omega)
      · rw [if_neg w, if_neg (by omega)]
        exact p7 k hk
    · refine i_sh_O ?_ ?_ ?_ ?_ (fun k hk => ?_) (hJ.2.2.2.1 s hs)
      · rw [h2 82 (by omega) (by omega) (by omega) (by omega) (by omega) (by omega)]
      · rw [h2 83 (by omega) (by omega) (by omega) (by omega) (by omega) (by omega)]
      · rw [h2 _ (by omega) (by omega) (by omega) (by omega) (by omega) (by omega)]
      · rw [h2 _ (by omega) (by omega) (by omega) (by omega) (by omega) (by omega)]
      · rw [h84, if_neg (by omega)]
end U40
set_option maxHeartbeats 1000000 in
theorem s_sheet (h : ge_I n G) (s b n1 : Int32) : st_is X n G YX11_sheet YX12_sheet [.ref (ge_ad X.1 0), .int s, .int b, .int n1] [.ref (ge_ad X.1 76), .int s, .int b, .int n1] := by
  obtain ⟨g, x, hb, hG, hJ⟩ := h
  obtain ⟨V, hok⟩ := hJ.1
  obtain ⟨E, hE, e2, hEv⟩ := p_ok_E hok
  have hV := hok.2.2.1
  have e3 := hok.2.1
  have hI := hok.1
  have hL := hok.2.2.2.2
  by_cases q : p_in s 0 3 = 0
  · exact st_e0 (k := 1) (by decide) (by decide) hG hJ rfl rfl (c_sheet_er1 q) (by decide) (m_sheet_er1 q) (by decide) (by decide)
  · obtain ⟨S, -, hS, eS⟩ := (p_in_x (lo := 0) (hi := 3) rfl rfl (by decide) (by decide) q)
    by_cases b0 : b = 0
    · subst b0 eS
      rcases (by omega : S = 0 ∨ S = 1 ∨ S = 2 ∨ S = 3) with rfl | rfl | rfl | rfl
      · exact st_sheet (S := 0) (m := 0) (by decide) (Or.inl rfl) (by decide) hG hJ rfl rfl c_sheet_ok0_0 rfl (fun G' => m_sheet_ok0 rfl (by decide)) (by decide) (by decide)
      · exact st_sheet (S := 1) (m := 0) (by decide) (Or.inl rfl) (by decide) hG hJ rfl rfl c_sheet_ok0_1 rfl (fun G' => m_sheet_ok0 rfl (by decide)) (by decide) (by decide)
      · exact st_sheet (S := 2) (m := 0) (by decide) (Or.inl rfl) (by decide) hG hJ rfl rfl c_sheet_ok0_2 rfl (fun G' => m_sheet_ok0 rfl (by decide)) (by decide) (by decide)
      · exact st_sheet (S := 3) (m := 0) (by decide) (Or.inl rfl) (by decide) hG hJ rfl rfl c_sheet_ok0_3 rfl (fun G' => m_sheet_ok0 rfl (by decide)) (by decide) (by decide)
    · by_cases b8 : b = 8
      · subst b8
        by_cases hn : n1 < 0
        · exact st_e0 (k := 3) (by decide) (by decide) hG hJ rfl rfl (c_sheet_st8 q hn) (by decide) (m_sheet_st8 q hn) (by decide) (by decide)
        · by_cases h40 : n1 ≤ 40
          · obtain ⟨m, hm, em⟩ := nI_of2 (M := 40) (n := 40) (by decide) hn h40
            subst em eS
            rcases (by omega : S = 0 ∨ S = 1 ∨ S = 2 ∨ S = 3) with rfl | rfl | rfl | rfl
            · exact st_sheet (S := 0) (m := m) (by decide) (Or.inr (Or.inl rfl)) hm hG hJ rfl rfl (c_sheet_ok8_0 rfl hm) rfl (fun G' => m_sheet_ok8 rfl (by decide) rfl hm) (by decide) (by decide)
            · exact st_sheet (S := 1) (m := m) (by decide) (Or.inr (Or.inl rfl)) hm hG hJ rfl rfl (c_sheet_ok8_1 rfl hm) rfl (fun G' => m_sheet_ok8 rfl (by decide) rfl hm) (by decide) (by decide)
            · exact st_sheet (S := 2) (m := m) (by decide) (Or.inr (Or.inl rfl)) hm hG hJ rfl rfl (c_sheet_ok8_2 rfl hm) rfl (fun G' => m_sheet_ok8 rfl (by decide) rfl hm) (by decide) (by decide)
            · exact st_sheet (S := 3) (m := m) (by decide) (Or.inr (Or.inl rfl)) hm hG hJ rfl rfl (c_sheet_ok8_3 rfl hm) rfl (fun G' => m_sheet_ok8 rfl (by decide) rfl hm) (by decide) (by decide)
          · exact st_e0 (k := 1) (by decide) (by decide) hG hJ rfl rfl (c_sheet_er38 q hn h40) (by decide) (m_sheet_er38 q hn h40) (by decide) (by decide)
      · by_cases b16 : b = 16
        · subst b16
          by_cases hn : n1 < 0
          · exact st_e0 (k := 3) (by decide) (by decide) hG hJ rfl rfl (c_sheet_st16 q hn) (by decide) (m_sheet_st16 q hn) (by decide) (by decide)
          · by_cases h40 : n1 ≤ 40
            · obtain ⟨m, hm, em⟩ := nI_of2 (M := 40) (n := 40) (by decide) hn h40
              subst em eS
              rcases (by omega : S = 0 ∨ S = 1 ∨ S = 2 ∨ S = 3) with rfl | rfl | rfl | rfl
              · exact st_sheet (S := 0) (m := m) (by decide) (Or.inr (Or.inr (Or.inl rfl))) hm hG hJ rfl rfl (c_sheet_ok16_0 rfl hm) rfl (fun G' => m_sheet_ok16 rfl (by decide) rfl hm) (by decide) (by decide)
              · exact st_sheet (S := 1) (m := m) (by decide) (Or.inr (Or.inr (Or.inl rfl))) hm hG hJ rfl rfl (c_sheet_ok16_1 rfl hm) rfl (fun G' => m_sheet_ok16 rfl (by decide) rfl hm) (by decide) (by decide)
              · exact st_sheet (S := 2) (m := m) (by decide) (Or.inr (Or.inr (Or.inl rfl))) hm hG hJ rfl rfl (c_sheet_ok16_2 rfl hm) rfl (fun G' => m_sheet_ok16 rfl (by decide) rfl hm) (by decide) (by decide)
              · exact st_sheet (S := 3) (m := m) (by decide) (Or.inr (Or.inr (Or.inl rfl))) hm hG hJ rfl rfl (c_sheet_ok16_3 rfl hm) rfl (fun G' => m_sheet_ok16 rfl (by decide) rfl hm) (by decide) (by decide)
            · exact st_e0 (k := 1) (by decide) (by decide) hG hJ rfl rfl (c_sheet_er316 q hn h40) (by decide) (m_sheet_er316 q hn h40) (by decide) (by decide)
        · by_cases b32 : b = 32
          · subst b32
            by_cases hn : n1 < 0
            · exact st_e0 (k := 3) (by decide) (by decide) hG hJ rfl rfl (c_sheet_st32 q hn) (by decide) (m_sheet_st32 q hn) (by decide) (by decide)
            · by_cases h40 : n1 ≤ 40
              · obtain ⟨m, hm, em⟩ := nI_of2 (M := 40) (n := 40) (by decide) hn h40
                subst em eS
                rcases (by omega : S = 0 ∨ S = 1 ∨ S = 2 ∨ S = 3) with rfl | rfl | rfl | rfl
                · exact st_sheet (S := 0) (m := m) (by decide) (Or.inr (Or.inr (Or.inr (rfl)))) hm hG hJ rfl rfl (c_sheet_ok32_0 rfl hm) rfl (fun G' => m_sheet_ok32 rfl (by decide) rfl hm) (by decide) (by decide)
                · exact st_sheet (S := 1) (m := m) (by decide) (Or.inr (Or.inr (Or.inr (rfl)))) hm hG hJ rfl rfl (c_sheet_ok32_1 rfl hm) rfl (fun G' => m_sheet_ok32 rfl (by decide) rfl hm) (by decide) (by decide)
                · exact st_sheet (S := 2) (m := m) (by decide) (Or.inr (Or.inr (Or.inr (rfl)))) hm hG hJ rfl rfl (c_sheet_ok32_2 rfl hm) rfl (fun G' => m_sheet_ok32 rfl (by decide) rfl hm) (by decide) (by decide)
                · exact st_sheet (S := 3) (m := m) (by decide) (Or.inr (Or.inr (Or.inr (rfl)))) hm hG hJ rfl rfl (c_sheet_ok32_3 rfl hm) rfl (fun G' => m_sheet_ok32 rfl (by decide) rfl hm) (by decide) (by decide)
              · exact st_e0 (k := 1) (by decide) (by decide) hG hJ rfl rfl (c_sheet_er332 q hn h40) (by decide) (m_sheet_er332 q hn h40) (by decide) (by decide)
          · exact st_e0 (k := 1) (by decide) (by decide) hG hJ rfl rfl (c_sheet_er2 q b0 b8 b16 b32) (by decide) (m_sheet_er2 q b0 b8 b16 b32) (by decide) (by decide)
set_option maxHeartbeats 1000000 in
theorem s_put (h : ge_I n G) (s i v : Int32) : st_is X n G YX11_put YX12_put [.ref (ge_ad X.1 0), .int s, .int i, .int v] [.ref (ge_ad X.1 76), .int s, .int i, .int v] := by
  obtain ⟨g, x, hb, hG, hJ⟩ := h
  obtain ⟨V, hok⟩ := hJ.1
  obtain ⟨E, hE, e2, hEv⟩ := p_ok_E hok
  have hV := hok.2.2.1
  have e3 := hok.2.1
  have hI := hok.1
  have hL := hok.2.2.2.2
  by_cases q : p_in s 0 3 = 0
  · exact st_e0 (k := 1) (by decide) (by decide) hG hJ rfl rfl (c_put_er1 q) (by decide) (m_put_er1 q) (by decide) (by decide)
  · obtain ⟨S, -, hS, eS⟩ := (p_in_x (lo := 0) (hi := 3) rfl rfl (by decide) (by decide) q)
    obtain ⟨bS, nS, s1, s2, s3, s4, s5, s6, s7⟩ := hJ.2.2.2.1 S (by omega)
    by_cases b0 : bS = 0
    · have k2 : g 82 S = 0 := s3.trans b0
      have k1 : g (67 + 2 * S) 2 = 0 := s4.trans b0
      subst eS
      rcases (by omega : S = 0 ∨ S = 1 ∨ S = 2 ∨ S = 3) with rfl | rfl | rfl | rfl
      · exact st_e0 (k := 2) (by decide) (by decide) hG hJ rfl rfl (c_put_no_0 k1) (by decide) (m_put_no rfl (by decide) (by rw [ge_k_o _ _ _ _ _ (by decide), ge_up_row _ _ _ (by decide)] <;> exact k2)) (by decide) (by decide)
      · exact st_e0 (k := 2) (by decide) (by decide) hG hJ rfl rfl (c_put_no_1 k1) (by decide) (m_put_no rfl (by decide) (by rw [ge_k_o _ _ _ _ _ (by decide), ge_up_row _ _ _ (by decide)] <;> exact k2)) (by decide) (by decide)
      · exact st_e0 (k := 2) (by decide) (by decide) hG hJ rfl rfl (c_put_no_2 k1) (by decide) (m_put_no rfl (by decide) (by rw [ge_k_o _ _ _ _ _ (by decide), ge_up_row _ _ _ (by decide)] <;> exact k2)) (by decide) (by decide)
      · exact st_e0 (k := 2) (by decide) (by decide) hG hJ rfl rfl (c_put_no_3 k1) (by decide) (m_put_no rfl (by decide) (by rw [ge_k_o _ _ _ _ _ (by decide), ge_up_row _ _ _ (by decide)] <;> exact k2)) (by decide) (by decide)
    · have k2 : ¬ g 82 S = 0 := by rw [s3]; exact b0
      have k1 : ¬ g (67 + 2 * S) 2 = 0 := by rw [s4]; exact b0
      by_cases qi : p_in i 0 (nI nS - 1) = 0
      · have j1 : p_hold (g (67 + 2 * S) 1) i 1 = 0 := by rw [p_hold_in, s6]; exact qi
        have j2 : p_in i 0 (g 83 S - 1) = 0 := by rw [s5]; exact qi
        subst eS
        rcases (by omega : S = 0 ∨ S = 1 ∨ S = 2 ∨ S = 3) with rfl | rfl | rfl | rfl
        · exact st_e0 (k := 1) (by decide) (by decide) hG hJ rfl rfl (c_put_er2_0 k1 j1) (by decide) (m_put_er2 rfl (by decide) (by rw [ge_k_o _ _ _ _ _ (by decide), ge_up_row _ _ _ (by decide)] <;> exact k2) (by rw [ge_k_o _ _ _ _ _ (by decide), ge_up_row _ _ _ (by decide)] <;> exact j2)) (by decide) (by decide)
        · exact st_e0 (k := 1) (by decide) (by decide) hG hJ rfl rfl (c_put_er2_1 k1 j1) (by decide) (m_put_er2 rfl (by decide) (by rw [ge_k_o _ _ _ _ _ (by decide), ge_up_row _ _ _ (by decide)] <;> exact k2) (by rw [ge_k_o _ _ _ _ _ (by decide), ge_up_row _ _ _ (by decide)] <;> exact j2)) (by decide) (by decide)
        · exact st_e0 (k := 1) (by decide) (by decide) hG hJ rfl rfl (c_put_er2_2 k1 j1) (by decide) (m_put_er2 rfl (by decide) (by rw [ge_k_o _ _ _ _ _ (by decide), ge_up_row _ _ _ (by decide)] <;> exact k2) (by rw [ge_k_o _ _ _ _ _ (by decide), ge_up_row _ _ _ (by decide)] <;> exact j2)) (by decide) (by decide)
        · exact st_e0 (k := 1) (by decide) (by decide) hG hJ rfl rfl (c_put_er2_3 k1 j1) (by decide) (m_put_er2 rfl (by decide) (by rw [ge_k_o _ _ _ _ _ (by decide), ge_up_row _ _ _ (by decide)] <;> exact k2) (by rw [ge_k_o _ _ _ _ _ (by decide), ge_up_row _ _ _ (by decide)] <;> exact j2)) (by decide) (by decide)
      · have j1 : ¬ p_hold (g (67 + 2 * S) 1) i 1 = 0 := by rw [p_hold_in, s6]; exact qi
        obtain ⟨a, ha, ea⟩ := p_in_iE (by omega) rfl qi
        subst eS
        rcases (by omega : S = 0 ∨ S = 1 ∨ S = 2 ∨ S = 3) with rfl | rfl | rfl | rfl
        · exact st_put (S := 0) (by decide) s2 ha s5 hG hJ rfl rfl (c_put_ok_0 (n := nS) k1 j1 ea (by omega)) rfl (m_put_ok rfl (by decide) (by rw [ge_k_o _ _ _ _ _ (by decide), ge_up_row _ _ _ (by decide)]; exact k2) (by rw [ge_k_o _ _ _ _ _ (by decide), ge_up_row _ _ _ (by decide)]; exact s5) ea ha s2) (by decide) (by decide)
        · exact st_put (S := 1) (by decide) s2 ha s5 hG hJ rfl rfl (c_put_ok_1 (n := nS) k1 j1 ea (by omega)) rfl (m_put_ok rfl (by decide) (by rw [ge_k_o _ _ _ _ _ (by decide), ge_up_row _ _ _ (by decide)]; exact k2) (by rw [ge_k_o _ _ _ _ _ (by decide), ge_up_row _ _ _ (by decide)]; exact s5) ea ha s2) (by decide) (by decide)
        · exact st_put (S := 2) (by decide) s2 ha s5 hG hJ rfl rfl (c_put_ok_2 (n := nS) k1 j1 ea (by omega)) rfl (m_put_ok rfl (by decide) (by rw [ge_k_o _ _ _ _ _ (by decide), ge_up_row _ _ _ (by decide)]; exact k2) (by rw [ge_k_o _ _ _ _ _ (by decide), ge_up_row _ _ _ (by decide)]; exact s5) ea ha s2) (by decide) (by decide)
        · exact st_put (S := 3) (by decide) s2 ha s5 hG hJ rfl rfl (c_put_ok_3 (n := nS) k1 j1 ea (by omega)) rfl (m_put_ok rfl (by decide) (by rw [ge_k_o _ _ _ _ _ (by decide), ge_up_row _ _ _ (by decide)]; exact k2) (by rw [ge_k_o _ _ _ _ _ (by decide), ge_up_row _ _ _ (by decide)]; exact s5) ea ha s2) (by decide) (by decide)
set_option maxHeartbeats 1000000 in
theorem s_move (h : ge_I n G) (s i o j m : Int32) : st_is X n G YX11_move YX12_move [.ref (ge_ad X.1 0), .int s, .int i, .int o, .int j, .int m] [.ref (ge_ad X.1 76), .int s, .int i, .int o, .int j, .int m] := by
  obtain ⟨g, x, hb, hG, hJ⟩ := h
  obtain ⟨V, hok⟩ := hJ.1
  obtain ⟨E, hE, e2, hEv⟩ := p_ok_E hok
  have hV := hok.2.2.1
  have e3 := hok.2.1
  have hI := hok.1
  have hL := hok.2.2.2.2
  by_cases q : p_in s 0 3 = 0 ∨ p_in o 0 3 = 0
  · exact st_e0 (k := 1) (by decide) (by decide) hG hJ rfl rfl (c_move_er1 q) (by decide) (m_move_er1 q) (by decide) (by decide)
  · obtain ⟨S, -, hS, eS⟩ := (p_in_x (lo := 0) (hi := 3) rfl rfl (by decide) (by decide) (fun z => q (Or.inl z)))
    obtain ⟨O, -, hO, eO⟩ := (p_in_x (lo := 0) (hi := 3) rfl rfl (by decide) (by decide) (fun z => q (Or.inr z)))
    obtain ⟨bS, nS, s1, s2, s3, s4, s5, s6, s7⟩ := hJ.2.2.2.1 S (by omega)
    obtain ⟨bO, nO, o1, o2, o3, o4, o5, o6, o7⟩ := hJ.2.2.2.1 O (by omega)
    by_cases b0 : bS = 0 ∨ bO = 0
    · have k2 : g 82 S = 0 ∨ g 82 O = 0 := by rw [s3, o3]; exact b0
      have k1 : g (67 + 2 * S) 2 = 0 ∨ g (67 + 2 * O) 2 = 0 := by rw [s4, o4]; exact b0
      subst eS eO
      rcases (by omega : S = 0 ∨ S = 1 ∨ S = 2 ∨ S = 3) with rfl | rfl | rfl | rfl
      · rcases (by omega : O = 0 ∨ O = 1 ∨ O = 2 ∨ O = 3) with rfl | rfl | rfl | rfl
        · exact st_e0 (k := 2) (by decide) (by decide) hG hJ rfl rfl (c_move_no_0_0 k1) (by decide) (m_move_no rfl (by decide) rfl (by decide) (by rw [ge_k_o _ _ _ _ _ (by decide), ge_up_row _ _ _ (by decide)] <;> exact k2)) (by decide) (by decide)
        · exact st_e0 (k := 2) (by decide) (by decide) hG hJ rfl rfl (c_move_no_0_1 k1) (by decide) (m_move_no rfl (by decide) rfl (by decide) (by rw [ge_k_o _ _ _ _ _ (by decide), ge_up_row _ _ _ (by decide)] <;> exact k2)) (by decide) (by decide)
        · exact st_e0 (k := 2) (by decide) (by decide) hG hJ rfl rfl (c_move_no_0_2 k1) (by decide) (m_move_no rfl (by decide) rfl (by decide) (by rw [ge_k_o _ _ _ _ _ (by decide), ge_up_row _ _ _ (by decide)] <;> exact k2)) (by decide) (by decide)
        · exact st_e0 (k := 2) (by decide) (by decide) hG hJ rfl rfl (c_move_no_0_3 k1) (by decide) (m_move_no rfl (by decide) rfl (by decide) (by rw [ge_k_o _ _ _ _ _ (by decide), ge_up_row _ _ _ (by decide)] <;> exact k2)) (by decide) (by decide)
      · rcases (by omega : O = 0 ∨ O = 1 ∨ O = 2 ∨ O = 3) with rfl | rfl | rfl | rfl
        · exact st_e0 (k := 2) (by decide) (by decide) hG hJ rfl rfl (c_move_no_1_0 k1) (by decide) (m_move_no rfl (by decide) rfl (by decide) (by rw [ge_k_o _ _ _ _ _ (by decide), ge_up_row _ _ _ (by decide)] <;> exact k2)) (by decide) (by decide)
        · exact st_e0 (k := 2) (by decide) (by decide) hG hJ rfl rfl (c_move_no_1_1 k1) (by decide) (m_move_no rfl (by decide) rfl (by decide) (by rw [ge_k_o _ _ _ _ _ (by decide), ge_up_row _ _ _ (by decide)] <;> exact k2)) (by decide) (by decide)
        · exact st_e0 (k := 2) (by decide) (by decide) hG hJ rfl rfl (c_move_no_1_2 k1) (by decide) (m_move_no rfl (by decide) rfl (by decide) (by rw [ge_k_o _ _ _ _ _ (by decide), ge_up_row _ _ _ (by decide)] <;> exact k2)) (by decide) (by decide)
        · exact st_e0 (k := 2) (by decide) (by decide) hG hJ rfl rfl (c_move_no_1_3 k1) (by decide) (m_move_no rfl (by decide) rfl (by decide) (by rw [ge_k_o _ _ _ _ _ (by decide), ge_up_row _ _ _ (by decide)] <;> exact k2)) (by decide) (by decide)
      · rcases (by omega : O = 0 ∨ O = 1 ∨ O = 2 ∨ O = 3) with rfl | rfl | rfl | rfl
        · exact st_e0 (k := 2) (by decide) (by decide) hG hJ rfl rfl (c_move_no_2_0 k1) (by decide) (m_move_no rfl (by decide) rfl (by decide) (by rw [ge_k_o _ _ _ _ _ (by decide), ge_up_row _ _ _ (by decide)] <;> exact k2)) (by decide) (by decide)
        · exact st_e0 (k := 2) (by decide) (by decide) hG hJ rfl rfl (c_move_no_2_1 k1) (by decide) (m_move_no rfl (by decide) rfl (by decide) (by rw [ge_k_o _ _ _ _ _ (by decide), ge_up_row _ _ _ (by decide)] <;> exact k2)) (by decide) (by decide)
        · exact st_e0 (k := 2) (by decide) (by decide) hG hJ rfl rfl (c_move_no_2_2 k1) (by decide) (m_move_no rfl (by decide) rfl (by decide) (by rw [ge_k_o _ _ _ _ _ (by decide), ge_up_row _ _ _ (by decide)] <;> exact k2)) (by decide) (by decide)
        · exact st_e0 (k := 2) (by decide) (by decide) hG hJ rfl rfl (c_move_no_2_3 k1) (by decide) (m_move_no rfl (by decide) rfl (by decide) (by rw [ge_k_o _ _ _ _ _ (by decide), ge_up_row _ _ _ (by decide)] <;> exact k2)) (by decide) (by decide)
      · rcases (by omega : O = 0 ∨ O = 1 ∨ O = 2 ∨ O = 3) with rfl | rfl | rfl | rfl
        · exact st_e0 (k := 2) (by decide) (by decide) hG hJ rfl rfl (c_move_no_3_0 k1) (by decide) (m_move_no rfl (by decide) rfl (by decide) (by rw [ge_k_o _ _ _ _ _ (by decide), ge_up_row _ _ _ (by decide)] <;> exact k2)) (by decide) (by decide)
        · exact st_e0 (k := 2) (by decide) (by decide) hG hJ rfl rfl (c_move_no_3_1 k1) (by decide) (m_move_no rfl (by decide) rfl (by decide) (by rw [ge_k_o _ _ _ _ _ (by decide), ge_up_row _ _ _ (by decide)] <;> exact k2)) (by decide) (by decide)
        · exact st_e0 (k := 2) (by decide) (by decide) hG hJ rfl rfl (c_move_no_3_2 k1) (by decide) (m_move_no rfl (by decide) rfl (by decide) (by rw [ge_k_o _ _ _ _ _ (by decide), ge_up_row _ _ _ (by decide)] <;> exact k2)) (by decide) (by decide)
        · exact st_e0 (k := 2) (by decide) (by decide) hG hJ rfl rfl (c_move_no_3_3 k1) (by decide) (m_move_no rfl (by decide) rfl (by decide) (by rw [ge_k_o _ _ _ _ _ (by decide), ge_up_row _ _ _ (by decide)] <;> exact k2)) (by decide) (by decide)
    · have k2 : ¬ g 82 S = 0 := by rw [s3]; exact fun z => b0 (Or.inl z)
      have k1 : ¬ g (67 + 2 * S) 2 = 0 := by rw [s4]; exact fun z => b0 (Or.inl z)
      have l2 : ¬ g 82 O = 0 := by rw [o3]; exact fun z => b0 (Or.inr z)
      have l1 : ¬ g (67 + 2 * O) 2 = 0 := by rw [o4]; exact fun z => b0 (Or.inr z)
      by_cases bk : bS = bO
      · have w2 : g 82 S = g 82 O := by rw [s3, o3]; exact bk
        have w1 : g (67 + 2 * S) 2 = g (67 + 2 * O) 2 := by rw [s4, o4]; exact bk
        by_cases hh : p_hold (nI nS) i m = 0 ∨ p_hold (nI nO) j m = 0
        · have j1 : p_hold (g (67 + 2 * S) 1) i m = 0 ∨ p_hold (g (67 + 2 * O) 1) j m = 0 := by rw [s6, o6]; exact hh
          have j2 : p_hold (g 83 S) i m = 0 ∨ p_hold (g 83 O) j m = 0 := by rw [s5, o5]; exact hh
          subst eS eO
          rcases (by omega : S = 0 ∨ S = 1 ∨ S = 2 ∨ S = 3) with rfl | rfl | rfl | rfl
          · rcases (by omega : O = 0 ∨ O = 1 ∨ O = 2 ∨ O = 3) with rfl | rfl | rfl | rfl
            · exact st_e0 (k := 1) (by decide) (by decide) hG hJ rfl rfl (c_move_er2_0_0 k1 l1 w1 j1) (by decide) (m_move_er2 rfl (by decide) rfl (by decide) (by rw [ge_k_o _ _ _ _ _ (by decide), ge_up_row _ _ _ (by decide)] <;> exact k2) (by rw [ge_k_o _ _ _ _ _ (by decide), ge_up_row _ _ _ (by decide)] <;> exact l2) (by rw [ge_k_o _ _ _ _ _ (by decide), ge_up_row _ _ _ (by decide)] <;> exact w2) (by rw [ge_k_o _ _ _ _ _ (by decide), ge_up_row _ _ _ (by decide)] <;> exact j2)) (by decide) (by decide)
            · exact st_e0 (k := 1) (by decide) (by decide) hG hJ rfl rfl (c_move_er2_0_1 k1 l1 w1 j1) (by decide) (m_move_er2 rfl (by decide) rfl (by decide) (by rw [ge_k_o _ _ _ _ _ (by decide), ge_up_row _ _ _ (by decide)] <;> exact k2) (by rw [ge_k_o _ _ _ _ _ (by decide), ge_up_row _ _ _ (by decide)] <;> exact l2) (by rw [ge_k_o _ _ _ _ _ (by decide), ge_up_row _ _ _ (by decide)] <;> exact w2) (by rw [ge_k_o _ _ _ _ _ (by decide), ge_up_row _ _ _ (by decide)] <;> exact j2)) (by decide) (by decide)
            · exact st_e0 (k := 1) (by decide) (by decide) hG hJ rfl rfl (c_move_er2_0_2 k1 l1 w1 j1) (by decide) (m_move_er2 rfl (by decide) rfl (by decide) (by rw [ge_k_o _ _ _ _ _ (by decide), ge_up_row _ _ _ (by decide)] <;> exact k2) (by rw [ge_k_o _ _ _ _ _ (by decide), ge_up_row _ _ _ (by decide)] <;> exact l2) (by rw [ge_k_o _ _ _ _ _ (by decide), ge_up_row _ _ _ (by decide)] <;> exact w2) (by rw [ge_k_o _ _ _ _ _ (by decide), ge_up_row _ _ _ (by decide)] <;> exact j2)) (by decide) (by decide)
            · exact st_e0 (k := 1) (by decide) (by decide) hG hJ rfl rfl (c_move_er2_0_3 k1 l1 w1 j1) (by decide) (m_move_er2 rfl (by decide) rfl (by decide) (by rw [ge_k_o _ _ _ _ _ (by decide), ge_up_row _ _ _ (by decide)] <;> exact k2) (by rw [ge_k_o _ _ _ _ _ (by decide), ge_up_row _ _ _ (by decide)] <;> exact l2) (by rw [ge_k_o _ _ _ _ _ (by decide), ge_up_row _ _ _ (by decide)] <;> exact w2) (by rw [ge_k_o _ _ _ _ _ (by decide), ge_up_row _ _ _ (by decide)] <;> exact j2)) (by decide) (by decide)
          · rcases (by omega : O = 0 ∨ O = 1 ∨ O = 2 ∨ O = 3) with rfl | rfl | rfl | rfl
            · exact st_e0 (k := 1) (by decide) (by decide) hG hJ rfl rfl (c_move_er2_1_0 k1 l1 w1 j1) (by decide) (m_move_er2 rfl (by decide) rfl (by decide) (by rw [ge_k_o _ _ _ _ _ (by decide), ge_up_row _ _ _ (by decide)] <;> exact k2) (by rw [ge_k_o _ _ _ _ _ (by decide), ge_up_row _ _ _ (by decide)] <;> exact l2) (by rw [ge_k_o _ _ _ _ _ (by decide), ge_up_row _ _ _ (by decide)] <;> exact w2) (by rw [ge_k_o _ _ _ _ _ (by decide), ge_up_row _ _ _ (by decide)] <;> exact j2)) (by decide) (by decide)
            · exact st_e0 (k := 1) (by decide) (by decide) hG hJ rfl rfl (c_move_er2_1_1 k1 l1 w1 j1) (by decide) (m_move_er2 rfl (by decide) rfl (by decide) (by rw [ge_k_o _ _ _ _ _ (by decide), ge_up_row _ _ _ (by decide)] <;> exact k2) (by rw [ge_k_o _ _ _ _ _ (by decide), ge_up_row _ _ _ (by decide)] <;> exact l2) (by rw [ge_k_o _ _ _ _ _ (by decide), ge_up_row _ _ _ (by decide)] <;> exact w2) (by rw [ge_k_o _ _ _ _ _ (by decide), ge_up_row _ _ _ (by decide)] <;> exact j2)) (by decide) (by decide)
            · exact st_e0 (k := 1) (by decide) (by decide) hG hJ rfl rfl (c_move_er2_1_2 k1 l1 w1 j1) (by decide) (m_move_er2 rfl (by decide) rfl (by decide) (by rw [ge_k_o _ _ _ _ _ (by decide), ge_up_row _ _ _ (by decide)] <;> exact k2) (by rw [ge_k_o _ _ _ _ _ (by decide), ge_up_row _ _ _ (by decide)] <;> exact l2) (by rw [ge_k_o _ _ _ _ _ (by decide), ge_up_row _ _ _ (by decide)] <;> exact w2) (by rw [ge_k_o _ _ _ _ _ (by decide), ge_up_row _ _ _ (by decide)] <;> exact j2)) (by decide) (by decide)
            · exact st_e0 (k := 1) (by decide) (by decide) hG hJ rfl rfl (c_move_er2_1_3 k1 l1 w1 j1) (by decide) (m_move_er2 rfl (by decide) rfl (by decide) (by rw [ge_k_o _ _ _ _ _ (by decide), ge_up_row _ _ _ (by decide)] <;> exact k2) (by rw [ge_k_o _ _ _ _ _ (by decide), ge_up_row _ _ _ (by decide)] <;> exact l2) (by rw [ge_k_o _ _ _ _ _ (by decide), ge_up_row _ _ _ (by decide)] <;> exact w2) (by rw [ge_k_o _ _ _ _ _ (by decide), ge_up_row _ _ _ (by decide)] <;> exact j2)) (by decide) (by decide)
          · rcases (by omega : O = 0 ∨ O = 1 ∨ O = 2 ∨ O = 3) with rfl | rfl | rfl | rfl
            · exact st_e0 (k := 1) (by decide) (by decide) hG hJ rfl rfl (c_move_er2_2_0 k1 l1 w1 j1) (by decide) (m_move_er2 rfl (by decide) rfl (by decide) (by rw [ge_k_o _ _ _ _ _ (by decide), ge_up_row _ _ _ (by decide)] <;> exact k2) (by rw [ge_k_o _ _ _ _ _ (by decide), ge_up_row _ _ _ (by decide)] <;> exact l2) (by rw [ge_k_o _ _ _ _ _ (by decide), ge_up_row _ _ _ (by decide)] <;> exact w2) (by rw [ge_k_o _ _ _ _ _ (by decide), ge_up_row _ _ _ (by decide)] <;> exact j2)) (by decide) (by decide)
            · exact st_e0 (k := 1) (by decide) (by decide) hG hJ rfl rfl (c_move_er2_2_1 k1 l1 w1 j1) (by decide) (m_move_er2 rfl (by decide) rfl (by decide) (by rw [ge_k_o _ _ _ _ _ (by decide), ge_up_row _ _ _ (by decide)] <;> exact k2) (by rw [ge_k_o _ _ _ _ _ (by decide), ge_up_row _ _ _ (by decide)] <;> exact l2) (by rw [ge_k_o _ _ _ _ _ (by decide), ge_up_row _ _ _ (by decide)] <;> exact w2) (by rw [ge_k_o _ _ _ _ _ (by decide), ge_up_row _ _ _ (by decide)] <;> exact j2)) (by decide) (by decide)
            · exact st_e0 (k := 1) (by decide) (by decide) hG hJ rfl rfl (c_move_er2_2_2 k1 l1 w1 j1) (by decide) (m_move_er2 rfl (by decide) rfl (by decide) (by rw [ge_k_o _ _ _ _ _ (by decide), ge_up_row _ _ _ (by decide)] <;> exact k2) (by rw [ge_k_o _ _ _ _ _ (by decide), ge_up_row _ _ _ (by decide)] <;> exact l2) (by rw [ge_k_o _ _ _ _ _ (by decide), ge_up_row _ _ _ (by decide)] <;> exact w2) (by rw [ge_k_o _ _ _ _ _ (by decide), ge_up_row _ _ _ (by decide)] <;> exact j2)) (by decide) (by decide)
            · exact st_e0 (k := 1) (by decide) (by decide) hG hJ rfl rfl (c_move_er2_2_3 k1 l1 w1 j1) (by decide) (m_move_er2 rfl (by decide) rfl (by decide) (by rw [ge_k_o _ _ _ _ _ (by decide), ge_up_row _ _ _ (by decide)] <;> exact k2) (by rw [ge_k_o _ _ _ _ _ (by decide), ge_up_row _ _ _ (by decide)] <;> exact l2) (by rw [ge_k_o _ _ _ _ _ (by decide), ge_up_row _ _ _ (by decide)] <;> exact w2) (by rw [ge_k_o _ _ _ _ _ (by decide), ge_up_row _ _ _ (by decide)] <;> exact j2)) (by decide) (by decide)
          · rcases (by omega : O = 0 ∨ O = 1 ∨ O = 2 ∨ O = 3) with rfl | rfl | rfl | rfl
            · exact st_e0 (k := 1) (by decide) (by decide) hG hJ rfl rfl (c_move_er2_3_0 k1 l1 w1 j1) (by decide) (m_move_er2 rfl (by decide) rfl (by decide) (by rw [ge_k_o _ _ _ _ _ (by decide), ge_up_row _ _ _ (by decide)] <;> exact k2) (by rw [ge_k_o _ _ _ _ _ (by decide), ge_up_row _ _ _ (by decide)] <;> exact l2) (by rw [ge_k_o _ _ _ _ _ (by decide), ge_up_row _ _ _ (by decide)] <;> exact w2) (by rw [ge_k_o _ _ _ _ _ (by decide), ge_up_row _ _ _ (by decide)] <;> exact j2)) (by decide) (by decide)
            · exact st_e0 (k := 1) (by decide) (by decide) hG hJ rfl rfl (c_move_er2_3_1 k1 l1 w1 j1) (by decide) (m_move_er2 rfl (by decide) rfl (by decide) (by rw [ge_k_o _ _ _ _ _ (by decide), ge_up_row _ _ _ (by decide)] <;> exact k2) (by rw [ge_k_o _ _ _ _ _ (by decide), ge_up_row _ _ _ (by decide)] <;> exact l2) (by rw [ge_k_o _ _ _ _ _ (by decide), ge_up_row _ _ _ (by decide)] <;> exact w2) (by rw [ge_k_o _ _ _ _ _ (by decide), ge_up_row _ _ _ (by decide)] <;> exact j2)) (by decide) (by decide)
            · exact st_e0 (k := 1) (by decide) (by decide) hG hJ rfl rfl (c_move_er2_3_2 k1 l1 w1 j1) (by decide) (m_move_er2 rfl (by decide) rfl (by decide) (by rw [ge_k_o _ _ _ _ _ (by decide), ge_up_row _ _ _ (by decide)] <;> exact k2) (by rw [ge_k_o _ _ _ _ _ (by decide), ge_up_row _ _ _ (by decide)] <;> exact l2) (by rw [ge_k_o _ _ _ _ _ (by decide), ge_up_row _ _ _ (by decide)] <;> exact w2) (by rw [ge_k_o _ _ _ _ _ (by decide), ge_up_row _ _ _ (by decide)] <;> exact j2)) (by decide) (by decide)
            · exact st_e0 (k := 1) (by decide) (by decide) hG hJ rfl rfl (c_move_er2_3_3 k1 l1 w1 j1) (by decide) (m_move_er2 rfl (by decide) rfl (by decide) (by rw [ge_k_o _ _ _ _ _ (by decide), ge_up_row _ _ _ (by decide)] <;> exact k2) (by rw [ge_k_o _ _ _ _ _ (by decide), ge_up_row _ _ _ (by decide)] <;> exact l2) (by rw [ge_k_o _ _ _ _ _ (by decide), ge_up_row _ _ _ (by decide)] <;> exact w2) (by rw [ge_k_o _ _ _ _ _ (by decide), ge_up_row _ _ _ (by decide)] <;> exact j2)) (by decide) (by decide)
        · obtain ⟨a, mm, ea, em, h5⟩ := p_hold_x s2 (fun z => hh (Or.inl z))
          obtain ⟨b, m2, eb, em2, h6⟩ := p_hold_x o2 (fun z => hh (Or.inr z))
          have j1 : ¬ p_hold (g (67 + 2 * S) 1) i m = 0 := by rw [s6]; exact fun z => hh (Or.inl z)
          have j2 : ¬ p_hold (g (67 + 2 * O) 1) j m = 0 := by rw [o6]; exact fun z => hh (Or.inr z)
          obtain rfl : m2 = mm := (nI_eq (by omega) (by omega)).mp (em2.symm.trans em)
          subst eS eO
          rcases (by omega : S = 0 ∨ S = 1 ∨ S = 2 ∨ S = 3) with rfl | rfl | rfl | rfl
          · rcases (by omega : O = 0 ∨ O = 1 ∨ O = 2 ∨ O = 3) with rfl | rfl | rfl | rfl
            · exact st_move (S := 0) (O := 0) (by decide) (by decide) w2 s5 o5 h5 h6 s2 o2 hG hJ rfl rfl (c_move_ok_0_0 k1 l1 w1 j1 j2 ea eb em (by omega) (by omega)) rfl (fun G' g82 g83 => m_move_ok rfl (by decide) rfl (by decide) (by rw [g82] <;> exact k2) (by rw [g82] <;> exact l2) (by rw [g82] <;> exact w2) ea eb em (by rw [g83] <;> exact s5) (by rw [g83] <;> exact o5) h5 h6 s2 o2) (by decide) (by decide)
            · exact st_move (S := 0) (O := 1) (by decide) (by decide) w2 s5 o5 h5 h6 s2 o2 hG hJ rfl rfl (c_move_ok_0_1 k1 l1 w1 j1 j2 ea eb em (by omega) (by omega)) rfl (fun G' g82 g83 => m_move_ok rfl (by decide) rfl (by decide) (by rw [g82] <;> exact k2) (by rw [g82] <;> exact l2) (by rw [g82] <;> exact w2) ea eb em (by rw [g83] <;> exact s5) (by rw [g83] <;> exact o5) h5 h6 s2 o2) (by decide) (by decide)
            · exact st_move (S := 0) (O := 2) (by decide) (by decide) w2 s5 o5 h5 h6 s2 o2 hG hJ rfl rfl (c_move_ok_0_2 k1 l1 w1 j1 j2 ea eb em (by omega) (by omega)) rfl (fun G' g82 g83 => m_move_ok rfl (by decide) rfl (by decide) (by rw [g82] <;> exact k2) (by rw [g82] <;> exact l2) (by rw [g82] <;> exact w2) ea eb em (by rw [g83] <;> exact s5) (by rw [g83] <;> exact o5) h5 h6 s2 o2) (by decide) (by decide)
            · exact st_move (S := 0) (O := 3) (by decide) (by decide) w2 s5 o5 h5 h6 s2 o2 hG hJ rfl rfl (c_move_ok_0_3 k1 l1 w1 j1 j2 ea eb em (by omega) (by omega)) rfl (fun G' g82 g83 => m_move_ok rfl (by decide) rfl (by decide) (by rw [g82] <;> exact k2) (by rw [g82] <;> exact l2) (by rw [g82] <;> exact w2) ea eb em (by rw [g83] <;> exact s5) (by rw [g83] <;> exact o5) h5 h6 s2 o2) (by decide) (by decide)
          · rcases (by omega : O = 0 ∨ O = 1 ∨ O = 2 ∨ O = 3) with rfl | rfl | rfl | rfl
            · exact st_move (S := 1) (O := 0) (by decide) (by decide) w2 s5 o5 h5 h6 s2 o2 hG hJ rfl rfl (c_move_ok_1_0 k1 l1 w1 j1 j2 ea eb em (by omega) (by omega)) rfl (fun G' g82 g83 => m_move_ok rfl (by decide) rfl (by decide) (by rw [g82] <;> exact k2) (by rw [g82] <;> exact l2) (by rw [g82] <;> exact w2) ea eb em (by rw [g83] <;> exact s5) (by rw [g83] <;> exact o5) h5 h6 s2 o2) (by decide) (by decide)
            · exact st_move (S := 1) (O := 1) (by decide) (by decide) w2 s5 o5 h5 h6 s2 o2 hG hJ rfl rfl (c_move_ok_1_1 k1 l1 w1 j1 j2 ea eb em (by omega) (by omega)) rfl (fun G' g82 g83 => m_move_ok rfl (by decide) rfl (by decide) (by rw [g82] <;> exact k2) (by rw [g82] <;> exact l2) (by rw [g82] <;> exact w2) ea eb em (by rw [g83] <;> exact s5) (by rw [g83] <;> exact o5) h5 h6 s2 o2) (by decide) (by decide)
            · exact st_move (S := 1) (O := 2) (by decide) (by decide) w2 s5 o5 h5 h6 s2 o2 hG hJ rfl rfl (c_move_ok_1_2 k1 l1 w1 j1 j2 ea eb em (by omega) (by omega)) rfl (fun G' g82 g83 => m_move_ok rfl (by decide) rfl (by decide) (by rw [g82] <;> exact k2) (by rw [g82] <;> exact l2) (by rw [g82] <;> exact w2) ea eb em (by rw [g83] <;> exact s5) (by rw [g83] <;> exact o5) h5 h6 s2 o2) (by decide) (by decide)
            · exact st_move (S := 1) (O := 3) (by decide) (by decide) w2 s5 o5 h5 h6 s2 o2 hG hJ rfl rfl (c_move_ok_1_3 k1 l1 w1 j1 j2 ea eb em (by omega) (by omega)) rfl (fun G' g82 g83 => m_move_ok rfl (by decide) rfl (by decide) (by rw [g82] <;> exact k2) (by rw [g82] <;> exact l2) (by rw [g82] <;> exact w2) ea eb em (by rw [g83] <;> exact s5) (by rw [g83] <;> exact o5) h5 h6 s2 o2) (by decide) (by decide)
          · rcases (by omega : O = 0 ∨ O = 1 ∨ O = 2 ∨ O = 3) with rfl | rfl | rfl | rfl
            · exact st_move (S := 2) (O := 0) (by decide) (by decide) w2 s5 o5 h5 h6 s2 o2 hG hJ rfl rfl (c_move_ok_2_0 k1 l1 w1 j1 j2 ea eb em (by omega) (by omega)) rfl (fun G' g82 g83 => m_move_ok rfl (by decide) rfl (by decide) (by rw [g82] <;> exact k2) (by rw [g82] <;> exact l2) (by rw [g82] <;> exact w2) ea eb em (by rw [g83] <;> exact s5) (by rw [g83] <;> exact o5) h5 h6 s2 o2) (by decide) (by decide)
            · exact st_move (S := 2) (O := 1) (by decide) (by decide) w2 s5 o5 h5 h6 s2 o2 hG hJ rfl rfl (c_move_ok_2_1 k1 l1 w1 j1 j2 ea eb em (by omega) (by omega)) rfl (fun G' g82 g83 => m_move_ok rfl (by decide) rfl (by decide) (by rw [g82] <;> exact k2) (by rw [g82] <;> exact l2) (by rw [g82] <;> exact w2) ea eb em (by rw [g83] <;> exact s5) (by rw [g83] <;> exact o5) h5 h6 s2 o2) (by decide) (by decide)
            · exact st_move (S := 2) (O := 2) (by decide) (by decide) w2 s5 o5 h5 h6 s2 o2 hG hJ rfl rfl (c_move_ok_2_2 k1 l1 w1 j1 j2 ea eb em (by omega) (by omega)) rfl (fun G' g82 g83 => m_move_ok rfl (by decide) rfl (by decide) (by rw [g82] <;> exact k2) (by rw [g82] <;> exact l2) (by rw [g82] <;> exact w2) ea eb em (by rw [g83] <;> exact s5) (by rw [g83] <;> exact o5) h5 h6 s2 o2) (by decide) (by decide)
            · exact st_move (S := 2) (O := 3) (by decide) (by decide) w2 s5 o5 h5 h6 s2 o2 hG hJ rfl rfl (c_move_ok_2_3 k1 l1 w1 j1 j2 ea eb em (by omega) (by omega)) rfl (fun G' g82 g83 => m_move_ok rfl (by decide) rfl (by decide) (by rw [g82] <;> exact k2) (by rw [g82] <;> exact l2) (by rw [g82] <;> exact w2) ea eb em (by rw [g83] <;> exact s5) (by rw [g83] <;> exact o5) h5 h6 s2 o2) (by decide) (by decide)
          · rcases (by omega : O = 0 ∨ O = 1 ∨ O = 2 ∨ O = 3) with rfl | rfl | rfl | rfl
            · exact st_move (S := 3) (O := 0) (by decide) (by decide) w2 s5 o5 h5 h6 s2 o2 hG hJ rfl rfl (c_move_ok_3_0 k1 l1 w1 j1 j2 ea eb em (by omega) (by omega)) rfl (fun G' g82 g83 => m_move_ok rfl (by decide) rfl (by decide) (by rw [g82] <;> exact k2) (by rw [g82] <;> exact l2) (by rw [g82] <;> exact w2) ea eb em (by rw [g83] <;> exact s5) (by rw [g83] <;> exact o5) h5 h6 s2 o2) (by decide) (by decide)
            · exact st_move (S := 3) (O := 1) (by decide) (by decide) w2 s5 o5 h5 h6 s2 o2 hG hJ rfl rfl (c_move_ok_3_1 k1 l1 w1 j1 j2 ea eb em (by omega) (by omega)) rfl (fun G' g82 g83 => m_move_ok rfl (by decide) rfl (by decide) (by rw [g82] <;> exact k2) (by rw [g82] <;> exact l2) (by rw [g82] <;> exact w2) ea eb em (by rw [g83] <;> exact s5) (by rw [g83] <;> exact o5) h5 h6 s2 o2) (by decide) (by decide)
            · exact st_move (S := 3) (O := 2) (by decide) (by decide) w2 s5 o5 h5 h6 s2 o2 hG hJ rfl rfl (c_move_ok_3_2 k1 l1 w1 j1 j2 ea eb em (by omega) (by omega)) rfl (fun G' g82 g83 => m_move_ok rfl (by decide) rfl (by decide) (by rw [g82] <;> exact k2) (by rw [g82] <;> exact l2) (by rw [g82] <;> exact w2) ea eb em (by rw [g83] <;> exact s5) (by rw [g83] <;> exact o5) h5 h6 s2 o2) (by decide) (by decide)
            · exact st_move (S := 3) (O := 3) (by decide) (by decide) w2 s5 o5 h5 h6 s2 o2 hG hJ rfl rfl (c_move_ok_3_3 k1 l1 w1 j1 j2 ea eb em (by omega) (by omega)) rfl (fun G' g82 g83 => m_move_ok rfl (by decide) rfl (by decide) (by rw [g82] <;> exact k2) (by rw [g82] <;> exact l2) (by rw [g82] <;> exact w2) ea eb em (by rw [g83] <;> exact s5) (by rw [g83] <;> exact o5) h5 h6 s2 o2) (by decide) (by decide)
      · have w2 : ¬ g 82 S = g 82 O := by rw [s3, o3]; exact bk
        have w1 : ¬ g (67 + 2 * S) 2 = g (67 + 2 * O) 2 := by rw [s4, o4]; exact bk
        subst eS eO
        rcases (by omega : S = 0 ∨ S = 1 ∨ S = 2 ∨ S = 3) with rfl | rfl | rfl | rfl
        · rcases (by omega : O = 0 ∨ O = 1 ∨ O = 2 ∨ O = 3) with rfl | rfl | rfl | rfl
          · exact st_e0 (k := 5) (by decide) (by decide) hG hJ rfl rfl (c_move_ki_0_0 k1 l1 w1) (by decide) (m_move_ki rfl (by decide) rfl (by decide) (by rw [ge_k_o _ _ _ _ _ (by decide), ge_up_row _ _ _ (by decide)] <;> exact k2) (by rw [ge_k_o _ _ _ _ _ (by decide), ge_up_row _ _ _ (by decide)] <;> exact l2) (by rw [ge_k_o _ _ _ _ _ (by decide), ge_up_row _ _ _ (by decide)] <;> exact w2)) (by decide) (by decide)
          · exact st_e0 (k := 5) (by decide) (by decide) hG hJ rfl rfl (c_move_ki_0_1 k1 l1 w1) (by decide) (m_move_ki rfl (by decide) rfl (by decide) (by rw [ge_k_o _ _ _ _ _ (by decide), ge_up_row _ _ _ (by decide)] <;> exact k2) (by rw [ge_k_o _ _ _ _ _ (by decide), ge_up_row _ _ _ (by decide)] <;> exact l2) (by rw [ge_k_o _ _ _ _ _ (by decide), ge_up_row _ _ _ (by decide)] <;> exact w2)) (by decide) (by decide)
          · exact st_e0 (k := 5) (by decide) (by decide) hG hJ rfl rfl (c_move_ki_0_2 k1 l1 w1) (by decide) (m_move_ki rfl (by decide) rfl (by decide) (by rw [ge_k_o _ _ _ _ _ (by decide), ge_up_row _ _ _ (by decide)] <;> exact k2) (by rw [ge_k_o _ _ _ _ _ (by decide), ge_up_row _ _ _ (by decide)] <;> exact l2) (by rw [ge_k_o _ _ _ _ _ (by decide), ge_up_row _ _ _ (by decide)] <;> exact w2)) (by decide) (by decide)
          · exact st_e0 (k := 5) (by decide) (by decide) hG hJ rfl rfl (c_move_ki_0_3 k1 l1 w1) (by decide) (m_move_ki rfl (by decide) rfl (by decide) (by rw [ge_k_o _ _ _ _ _ (by decide), ge_up_row _ _ _ (by decide)] <;> exact k2) (by rw [ge_k_o _ _ _ _ _ (by decide), ge_up_row _ _ _ (by decide)] <;> exact l2) (by rw [ge_k_o _ _ _ _ _ (by decide), ge_up_row _ _ _ (by decide)] <;> exact w2)) (by decide) (by decide)
        · rcases (by omega : O = 0 ∨ O = 1 ∨ O = 2 ∨ O = 3) with rfl | rfl | rfl | rfl
          · exact st_e0 (k := 5) (by decide) (by decide) hG hJ rfl rfl (c_move_ki_1_0 k1 l1 w1) (by decide) (m_move_ki rfl (by decide) rfl (by decide) (by rw [ge_k_o _ _ _ _ _ (by decide), ge_up_row _ _ _ (by decide)] <;> exact k2) (by rw [ge_k_o _ _ _ _ _ (by decide), ge_up_row _ _ _ (by decide)] <;> exact l2) (by rw [ge_k_o _ _ _ _ _ (by decide), ge_up_row _ _ _ (by decide)] <;> exact w2)) (by decide) (by decide)
          · exact st_e0 (k := 5) (by decide) (by decide) hG hJ rfl rfl (c_move_ki_1_1 k1 l1 w1) (by decide) (m_move_ki rfl (by decide) rfl (by decide) (by rw [ge_k_o _ _ _ _ _ (by decide), ge_up_row _ _ _ (by decide)] <;> exact k2) (by rw [ge_k_o _ _ _ _ _ (by decide), ge_up_row _ _ _ (by decide)] <;> exact l2) (by rw [ge_k_o _ _ _ _ _ (by decide), ge_up_row _ _ _ (by decide)] <;> exact w2)) (by decide) (by decide)
          · exact st_e0 (k := 5) (by decide) (by decide) hG hJ rfl rfl (c_move_ki_1_2 k1 l1 w1) (by decide) (m_move_ki rfl (by decide) rfl (by decide) (by rw [ge_k_o _ _ _ _ _ (by decide), ge_up_row _ _ _ (by decide)] <;> exact k2) (by rw [ge_k_o _ _ _ _ _ (by decide), ge_up_row _ _ _ (by decide)] <;> exact l2) (by rw [ge_k_o _ _ _ _ _ (by decide), ge_up_row _ _ _ (by decide)] <;> exact w2)) (by decide) (by decide)
          · exact st_e0 (k := 5) (by decide) (by decide) hG hJ rfl rfl (c_move_ki_1_3 k1 l1 w1) (by decide) (m_move_ki rfl (by decide) rfl (by decide) (by rw [ge_k_o _ _ _ _ _ (by decide), ge_up_row _ _ _ (by decide)] <;> exact k2) (by rw [ge_k_o _ _ _ _ _ (by decide), ge_up_row _ _ _ (by decide)] <;> exact l2) (by rw [ge_k_o _ _ _ _ _ (by decide), ge_up_row _ _ _ (by decide)] <;> exact w2)) (by decide) (by decide)
        · rcases (by omega : O = 0 ∨ O = 1 ∨ O = 2 ∨ O = 3) with rfl | rfl | rfl | rfl
          · exact st_e0 (k := 5) (by decide) (by decide) hG hJ rfl rfl (c_move_ki_2_0 k1 l1 w1) (by decide) (m_move_ki rfl (by decide) rfl (by decide) (by rw [ge_k_o _ _ _ _ _ (by decide), ge_up_row _ _ _ (by decide)] <;> exact k2) (by rw [ge_k_o _ _ _ _ _ (by decide), ge_up_row _ _ _ (by decide)] <;> exact l2) (by rw [ge_k_o _ _ _ _ _ (by decide), ge_up_row _ _ _ (by decide)] <;> exact w2)) (by decide) (by decide)
          · exact st_e0 (k := 5) (by decide) (by decide) hG hJ rfl rfl (c_move_ki_2_1 k1 l1 w1) (by decide) (m_move_ki rfl (by decide) rfl (by decide) (by rw [ge_k_o _ _ _ _ _ (by decide), ge_up_row _ _ _ (by decide)] <;> exact k2) (by rw [ge_k_o _ _ _ _ _ (by decide), ge_up_row _ _ _ (by decide)] <;> exact l2) (by rw [ge_k_o _ _ _ _ _ (by decide), ge_up_row _ _ _ (by decide)] <;> exact w2)) (by decide) (by decide)
          · exact st_e0 (k := 5) (by decide) (by decide) hG hJ rfl rfl (c_move_ki_2_2 k1 l1 w1) (by decide) (m_move_ki rfl (by decide) rfl (by decide) (by rw [ge_k_o _ _ _ _ _ (by decide), ge_up_row _ _ _ (by decide)] <;> exact k2) (by rw [ge_k_o _ _ _ _ _ (by decide), ge_up_row _ _ _ (by decide)] <;> exact l2) (by rw [ge_k_o _ _ _ _ _ (by decide), ge_up_row _ _ _ (by decide)] <;> exact w2)) (by decide) (by decide)
          · exact st_e0 (k := 5) (by decide) (by decide) hG hJ rfl rfl (c_move_ki_2_3 k1 l1 w1) (by decide) (m_move_ki rfl (by decide) rfl (by decide) (by rw [ge_k_o _ _ _ _ _ (by decide), ge_up_row _ _ _ (by decide)] <;> exact k2) (by rw [ge_k_o _ _ _ _ _ (by decide), ge_up_row _ _ _ (by decide)] <;> exact l2) (by rw [ge_k_o _ _ _ _ _ (by decide), ge_up_row _ _ _ (by decide)] <;> exact w2)) (by decide) (by decide)
        · rcases (by omega : O = 0 ∨ O = 1 ∨ O = 2 ∨ O = 3) with rfl | rfl | rfl | rfl
          · exact st_e0 (k := 5) (by decide) (by decide) hG hJ rfl rfl (c_move_ki_3_0 k1 l1 w1) (by decide) (m_move_ki rfl (by decide) rfl (by decide) (by rw [ge_k_o _ _ _ _ _ (by decide), ge_up_row _ _ _ (by decide)] <;> exact k2) (by rw [ge_k_o _ _ _ _ _ (by decide), ge_up_row _ _ _ (by decide)] <;> exact l2) (by rw [ge_k_o _ _ _ _ _ (by decide), ge_up_row _ _ _ (by decide)] <;> exact w2)) (by decide) (by decide)
          · exact st_e0 (k := 5) (by decide) (by decide) hG hJ rfl rfl (c_move_ki_3_1 k1 l1 w1) (by decide) (m_move_ki rfl (by decide) rfl (by decide) (by rw [ge_k_o _ _ _ _ _ (by decide), ge_up_row _ _ _ (by decide)] <;> exact k2) (by rw [ge_k_o _ _ _ _ _ (by decide), ge_up_row _ _ _ (by decide)] <;> exact l2) (by rw [ge_k_o _ _ _ _ _ (by decide), ge_up_row _ _ _ (by decide)] <;> exact w2)) (by decide) (by decide)
          · exact st_e0 (k := 5) (by decide) (by decide) hG hJ rfl rfl (c_move_ki_3_2 k1 l1 w1) (by decide) (m_move_ki rfl (by decide) rfl (by decide) (by rw [ge_k_o _ _ _ _ _ (by decide), ge_up_row _ _ _ (by decide)] <;> exact k2) (by rw [ge_k_o _ _ _ _ _ (by decide), ge_up_row _ _ _ (by decide)] <;> exact l2) (by rw [ge_k_o _ _ _ _ _ (by decide), ge_up_row _ _ _ (by decide)] <;> exact w2)) (by decide) (by decide)
          · exact st_e0 (k := 5) (by decide) (by decide) hG hJ rfl rfl (c_move_ki_3_3 k1 l1 w1) (by decide) (m_move_ki rfl (by decide) rfl (by decide) (by rw [ge_k_o _ _ _ _ _ (by decide), ge_up_row _ _ _ (by decide)] <;> exact k2) (by rw [ge_k_o _ _ _ _ _ (by decide), ge_up_row _ _ _ (by decide)] <;> exact l2) (by rw [ge_k_o _ _ _ _ _ (by decide), ge_up_row _ _ _ (by decide)] <;> exact w2)) (by decide) (by decide)
set_option maxHeartbeats 1000000 in
theorem s_bases (h : ge_I n G) (s : Int32) : st_is X n G YX11_bases YX12_bases [.ref (ge_ad X.1 0), .int s] [.ref (ge_ad X.1 76), .int s] := by
  obtain ⟨g, x, hb, hG, hJ⟩ := h
  obtain ⟨V, hok⟩ := hJ.1
  obtain ⟨E, hE, e2, hEv⟩ := p_ok_E hok
  have hV := hok.2.2.1
  have e3 := hok.2.1
  have hI := hok.1
  have hL := hok.2.2.2.2
  by_cases q : p_in s 0 3 = 0
  · exact st_e0 (k := 1) (by decide) (by decide) hG hJ rfl rfl (c_bases_er q) (by decide) (m_bases_er q) (by decide) (by decide)
  · obtain ⟨S, -, hS, eS⟩ := (p_in_x (lo := 0) (hi := 3) rfl rfl (by decide) (by decide) q)
    obtain ⟨bS, nS, s1, s2, s3, s4, s5, s6, s7⟩ := hJ.2.2.2.1 S (by omega)
    have al := i_sh_al (hJ.2.2.2.1 S (by omega)) s5 s2
    by_cases b0 : bS = 0
    · have k2 : g 82 S = 0 := s3.trans b0
      have k1 : g (67 + 2 * S) 2 = 0 := s4.trans b0
      subst eS
      rcases (by omega : S = 0 ∨ S = 1 ∨ S = 2 ∨ S = 3) with rfl | rfl | rfl | rfl
      · exact st_e0 (k := 2) (by decide) (by decide) hG hJ rfl rfl (c_bases_no_0 k1) (by decide) (m_bases_no rfl (by decide) (by rw [ge_k_o _ _ _ _ _ (by decide), ge_up_row _ _ _ (by decide)] <;> exact k2)) (by decide) (by decide)
      · exact st_e0 (k := 2) (by decide) (by decide) hG hJ rfl rfl (c_bases_no_1 k1) (by decide) (m_bases_no rfl (by decide) (by rw [ge_k_o _ _ _ _ _ (by decide), ge_up_row _ _ _ (by decide)] <;> exact k2)) (by decide) (by decide)
      · exact st_e0 (k := 2) (by decide) (by decide) hG hJ rfl rfl (c_bases_no_2 k1) (by decide) (m_bases_no rfl (by decide) (by rw [ge_k_o _ _ _ _ _ (by decide), ge_up_row _ _ _ (by decide)] <;> exact k2)) (by decide) (by decide)
      · exact st_e0 (k := 2) (by decide) (by decide) hG hJ rfl rfl (c_bases_no_3 k1) (by decide) (m_bases_no rfl (by decide) (by rw [ge_k_o _ _ _ _ _ (by decide), ge_up_row _ _ _ (by decide)] <;> exact k2)) (by decide) (by decide)
    · have k2 : ¬ g 82 S = 0 := by rw [s3]; exact b0
      have k1 : ¬ g (67 + 2 * S) 2 = 0 := by rw [s4]; exact b0
      have eq := p_bsr_al al (min nS E) 0 (g 77) (by omega)
      have ok := p_bsr_ok (h := g (68 + 2 * S)) (min nS E) 0 (g 77) (by omega) hok
      have lo := fun j hj => p_bsr_o (h := g (68 + 2 * S)) (j := j) hj (min nS E) 0 (g 77) (by omega)
      subst eS
      rcases (by omega : S = 0 ∨ S = 1 ∨ S = 2 ∨ S = 3) with rfl | rfl | rfl | rfl
      · exact st_rw hG hJ rfl rfl (c_bases_ok_0 s2 hE e2 k1 s6) (by rw [ge_k_o _ _ _ _ _ (by decide)]; exact congrArg (fun z => nI z.2) eq.symm) (by rw [ge_k_o _ _ _ _ _ (by decide)]; exact congrArg (fun z => z.1) eq.symm) (m_bases_ok rfl (by decide) s2 hE e2 (by rw [ge_k_o _ _ _ _ _ (by decide)] <;> exact k2) (by rw [ge_k_o _ _ _ _ _ (by decide)] <;> exact s5)) ⟨V, ok⟩ (lo 4 (by omega)) (lo 5 (by omega)) (fun i h1 _ => lo i (by omega)) ⟨rfl, rfl, rfl⟩ hJ.2.2.2.2.2.2.2 (by decide) (by decide)
      · exact st_rw hG hJ rfl rfl (c_bases_ok_1 s2 hE e2 k1 s6) (by rw [ge_k_o _ _ _ _ _ (by decide)]; exact congrArg (fun z => nI z.2) eq.symm) (by rw [ge_k_o _ _ _ _ _ (by decide)]; exact congrArg (fun z => z.1) eq.symm) (m_bases_ok rfl (by decide) s2 hE e2 (by rw [ge_k_o _ _ _ _ _ (by decide)] <;> exact k2) (by rw [ge_k_o _ _ _ _ _ (by decide)] <;> exact s5)) ⟨V, ok⟩ (lo 4 (by omega)) (lo 5 (by omega)) (fun i h1 _ => lo i (by omega)) ⟨rfl, rfl, rfl⟩ hJ.2.2.2.2.2.2.2 (by decide) (by decide)
      · exact st_rw hG hJ rfl rfl (c_bases_ok_2 s2 hE e2 k1 s6) (by rw [ge_k_o _ _ _ _ _ (by decide)]; exact congrArg (fun z => nI z.2) eq.symm) (by rw [ge_k_o _ _ _ _ _ (by decide)]; exact congrArg (fun z => z.1) eq.symm) (m_bases_ok rfl (by decide) s2 hE e2 (by rw [ge_k_o _ _ _ _ _ (by decide)] <;> exact k2) (by rw [ge_k_o _ _ _ _ _ (by decide)] <;> exact s5)) ⟨V, ok⟩ (lo 4 (by omega)) (lo 5 (by omega)) (fun i h1 _ => lo i (by omega)) ⟨rfl, rfl, rfl⟩ hJ.2.2.2.2.2.2.2 (by decide) (by decide)
      · exact st_rw hG hJ rfl rfl (c_bases_ok_3 s2 hE e2 k1 s6) (by rw [ge_k_o _ _ _ _ _ (by decide)]; exact congrArg (fun z => nI z.2) eq.symm) (by rw [ge_k_o _ _ _ _ _ (by decide)]; exact congrArg (fun z => z.1) eq.symm) (m_bases_ok rfl (by decide) s2 hE e2 (by rw [ge_k_o _ _ _ _ _ (by decide)] <;> exact k2) (by rw [ge_k_o _ _ _ _ _ (by decide)] <;> exact s5)) ⟨V, ok⟩ (lo 4 (by omega)) (lo 5 (by omega)) (fun i h1 _ => lo i (by omega)) ⟨rfl, rfl, rfl⟩ hJ.2.2.2.2.2.2.2 (by decide) (by decide)
set_option maxHeartbeats 1000000 in
theorem s_judge (h : ge_I n G) (s : Int32) : st_is X n G YX11_judge YX12_judge [.ref (ge_ad X.1 0), .int s] [.ref (ge_ad X.1 76), .int s] := by
  obtain ⟨g, x, hb, hG, hJ⟩ := h
  obtain ⟨V, hok⟩ := hJ.1
  obtain ⟨E, hE, e2, hEv⟩ := p_ok_E hok
  have hV := hok.2.2.1
  have e3 := hok.2.1
  have hI := hok.1
  have hL := hok.2.2.2.2
  by_cases q : p_in s 0 3 = 0
  · exact st_e0 (k := 1) (by decide) (by decide) hG hJ rfl rfl (c_judge_er q) (by decide) (m_judge_er q) (by decide) (by decide)
  · obtain ⟨S, -, hS, eS⟩ := (p_in_x (lo := 0) (hi := 3) rfl rfl (by decide) (by decide) q)
    obtain ⟨bS, nS, s1, s2, s3, s4, s5, s6, s7⟩ := hJ.2.2.2.1 S (by omega)
    have al := i_sh_al (hJ.2.2.2.1 S (by omega)) s5 s2
    by_cases b0 : bS = 0
    · have k2 : g 82 S = 0 := s3.trans b0
      have k1 : g (67 + 2 * S) 2 = 0 := s4.trans b0
      subst eS
      rcases (by omega : S = 0 ∨ S = 1 ∨ S = 2 ∨ S = 3) with rfl | rfl | rfl | rfl
      · exact st_e0 (k := 2) (by decide) (by decide) hG hJ rfl rfl (c_judge_no_0 k1) (by decide) (m_judge_no rfl (by decide) (by rw [ge_k_o _ _ _ _ _ (by decide), ge_up_row _ _ _ (by decide)] <;> exact k2)) (by decide) (by decide)
      · exact st_e0 (k := 2) (by decide) (by decide) hG hJ rfl rfl (c_judge_no_1 k1) (by decide) (m_judge_no rfl (by decide) (by rw [ge_k_o _ _ _ _ _ (by decide), ge_up_row _ _ _ (by decide)] <;> exact k2)) (by decide) (by decide)
      · exact st_e0 (k := 2) (by decide) (by decide) hG hJ rfl rfl (c_judge_no_2 k1) (by decide) (m_judge_no rfl (by decide) (by rw [ge_k_o _ _ _ _ _ (by decide), ge_up_row _ _ _ (by decide)] <;> exact k2)) (by decide) (by decide)
      · exact st_e0 (k := 2) (by decide) (by decide) hG hJ rfl rfl (c_judge_no_3 k1) (by decide) (m_judge_no rfl (by decide) (by rw [ge_k_o _ _ _ _ _ (by decide), ge_up_row _ _ _ (by decide)] <;> exact k2)) (by decide) (by decide)
    · have k2 : ¬ g 82 S = 0 := by rw [s3]; exact b0
      have k1 : ¬ g (67 + 2 * S) 2 = 0 := by rw [s4]; exact b0
      have eq : p_ju (g (68 + 2 * S)) (p_shows (g 77)) (min nS E) 0 = p_ju (fun k => g 84 (40 * S + k)) (p_shows (g 77)) (min nS E) 0 := by
        refine p_ju_cg _ 0 (fun k _ k2 => ?_)
        obtain ⟨t, ht, e⟩ := p_shows_in hI (e := k) (by omega)
        rw [e]
        exact al k (by omega) t ht
      subst eS
      rcases (by omega : S = 0 ∨ S = 1 ∨ S = 2 ∨ S = 3) with rfl | rfl | rfl | rfl
      · exact st_r0 hG hJ rfl rfl (c_judge_ok_0 s2 hE e2 hI hL k1 s6) (by rw [ge_k_o _ _ _ _ _ (by decide)]; exact congrArg (p_jv nS E) eq.symm) (m_judge_ok rfl (by decide) s2 hE e2 hI (by rw [ge_k_o _ _ _ _ _ (by decide)] <;> exact k2) (by rw [ge_k_o _ _ _ _ _ (by decide)] <;> exact s5)) (by decide) (by decide)
      · exact st_r0 hG hJ rfl rfl (c_judge_ok_1 s2 hE e2 hI hL k1 s6) (by rw [ge_k_o _ _ _ _ _ (by decide)]; exact congrArg (p_jv nS E) eq.symm) (m_judge_ok rfl (by decide) s2 hE e2 hI (by rw [ge_k_o _ _ _ _ _ (by decide)] <;> exact k2) (by rw [ge_k_o _ _ _ _ _ (by decide)] <;> exact s5)) (by decide) (by decide)
      · exact st_r0 hG hJ rfl rfl (c_judge_ok_2 s2 hE e2 hI hL k1 s6) (by rw [ge_k_o _ _ _ _ _ (by decide)]; exact congrArg (p_jv nS E) eq.symm) (m_judge_ok rfl (by decide) s2 hE e2 hI (by rw [ge_k_o _ _ _ _ _ (by decide)] <;> exact k2) (by rw [ge_k_o _ _ _ _ _ (by decide)] <;> exact s5)) (by decide) (by decide)
      · exact st_r0 hG hJ rfl rfl (c_judge_ok_3 s2 hE e2 hI hL k1 s6) (by rw [ge_k_o _ _ _ _ _ (by decide)]; exact congrArg (p_jv nS E) eq.symm) (m_judge_ok rfl (by decide) s2 hE e2 hI (by rw [ge_k_o _ _ _ _ _ (by decide)] <;> exact k2) (by rw [ge_k_o _ _ _ _ _ (by decide)] <;> exact s5)) (by decide) (by decide)
set_option maxHeartbeats 1000000 in
theorem s_whose (h : ge_I n G) (s w a : Int32) : st_is X n G YX11_whose YX12_whose [.ref (ge_ad X.1 0), .int s, .int w, .int a] [.ref (ge_ad X.1 76), .int s, .int w, .int a] := by
  obtain ⟨g, x, hb, hG, hJ⟩ := h
  obtain ⟨V, hok⟩ := hJ.1
  obtain ⟨E, hE, e2, hEv⟩ := p_ok_E hok
  have hV := hok.2.2.1
  have e3 := hok.2.1
  have hI := hok.1
  have hL := hok.2.2.2.2
  by_cases q : p_in s 0 3 = 0 ∨ p_in w 0 (g 77 3 - 1) = 0 ∨ p_in a 0 1 = 0
  · exact st_e0 (k := 1) (by decide) (by decide) hG hJ rfl rfl (c_whose_er q) (by decide) (m_whose_er q) (by decide) (by decide)
  · obtain ⟨S, -, hS, eS⟩ := (p_in_x (lo := 0) (hi := 3) rfl rfl (by decide) (by decide) (fun z => q (Or.inl z)))
    have qw := fun z => q (Or.inr (Or.inl z))
    have qa := fun z => q (Or.inr (Or.inr z))
    obtain ⟨bS, nS, s1, s2, s3, s4, s5, s6, s7⟩ := hJ.2.2.2.1 S (by omega)
    have al := i_sh_al (hJ.2.2.2.1 S (by omega)) s5 s2
    by_cases b0 : bS = 0
    · have k2 : g 82 S = 0 := s3.trans b0
      have k1 : g (67 + 2 * S) 2 = 0 := s4.trans b0
      subst eS
      rcases (by omega : S = 0 ∨ S = 1 ∨ S = 2 ∨ S = 3) with rfl | rfl | rfl | rfl
      · exact st_e0 (k := 2) (by decide) (by decide) hG hJ rfl rfl (c_whose_no_0 qw qa k1) (by decide) (m_whose_no rfl (by decide) qw qa (by rw [ge_k_o _ _ _ _ _ (by decide), ge_up_row _ _ _ (by decide)] <;> exact k2)) (by decide) (by decide)
      · exact st_e0 (k := 2) (by decide) (by decide) hG hJ rfl rfl (c_whose_no_1 qw qa k1) (by decide) (m_whose_no rfl (by decide) qw qa (by rw [ge_k_o _ _ _ _ _ (by decide), ge_up_row _ _ _ (by decide)] <;> exact k2)) (by decide) (by decide)
      · exact st_e0 (k := 2) (by decide) (by decide) hG hJ rfl rfl (c_whose_no_2 qw qa k1) (by decide) (m_whose_no rfl (by decide) qw qa (by rw [ge_k_o _ _ _ _ _ (by decide), ge_up_row _ _ _ (by decide)] <;> exact k2)) (by decide) (by decide)
      · exact st_e0 (k := 2) (by decide) (by decide) hG hJ rfl rfl (c_whose_no_3 qw qa k1) (by decide) (m_whose_no rfl (by decide) qw qa (by rw [ge_k_o _ _ _ _ _ (by decide), ge_up_row _ _ _ (by decide)] <;> exact k2)) (by decide) (by decide)
    · have k2 : ¬ g 82 S = 0 := by rw [s3]; exact b0
      have k1 : ¬ g (67 + 2 * S) 2 = 0 := by rw [s4]; exact b0
      have eq := p_so_al al s2 hI hE
      obtain ⟨i, hi, ei⟩ := p_in_iE (by omega) e3 qw
      obtain ⟨k, hk, ek⟩ := p_wsF_in (P := p_so (g (68 + 2 * S)) (g 77) nS) E hE
      have hk2 : k < 1024 := Nat.lt_of_lt_of_le hk (Nat.le_trans (Nat.pow_le_pow_right (by decide) hE) (by decide))
      have ek2 := eq.symm.trans ek
      have ok0 : p_ok g (0 + 41) V (g 77) := p_ok_weak hok (by omega)
      obtain ⟨j, -, hj, rfl⟩ := (p_in_x (lo := 0) (hi := 1) rfl rfl (by decide) (by decide) qa)
      subst eS
      rcases (by omega : j = 0 ∨ j = 1) with rfl | rfl
      · rcases (by omega : S = 0 ∨ S = 1 ∨ S = 2 ∨ S = 3) with rfl | rfl | rfl | rfl
        · exact st_th hG hJ rfl rfl (fun q h => ge_wS_o h E) (c_whose_ok0_0 (c := 0) ok0 e2 hE ei hi s2 s6 k1) (by rw [ge_k_o _ _ _ _ _ (by decide), ge_wS_o (by decide)]; exact eq.symm) (m_whose_ok0 (c := 0) rfl (by decide) ok0.1 e2 hE qw s2 (by rw [ge_k_o _ _ _ _ _ (by decide), ge_wS_o (by decide)]; exact s5) (by rw [ge_k_o _ _ _ _ _ (by decide), ge_wS_o (by decide)]; exact k2)) ⟨rfl, rfl, rfl⟩ (by decide) (by decide)
        · exact st_th hG hJ rfl rfl (fun q h => ge_wS_o h E) (c_whose_ok0_1 (c := 0) ok0 e2 hE ei hi s2 s6 k1) (by rw [ge_k_o _ _ _ _ _ (by decide), ge_wS_o (by decide)]; exact eq.symm) (m_whose_ok0 (c := 0) rfl (by decide) ok0.1 e2 hE qw s2 (by rw [ge_k_o _ _ _ _ _ (by decide), ge_wS_o (by decide)]; exact s5) (by rw [ge_k_o _ _ _ _ _ (by decide), ge_wS_o (by decide)]; exact k2)) ⟨rfl, rfl, rfl⟩ (by decide) (by decide)
        · exact st_th hG hJ rfl rfl (fun q h => ge_wS_o h E) (c_whose_ok0_2 (c := 0) ok0 e2 hE ei hi s2 s6 k1) (by rw [ge_k_o _ _ _ _ _ (by decide), ge_wS_o (by decide)]; exact eq.symm) (m_whose_ok0 (c := 0) rfl (by decide) ok0.1 e2 hE qw s2 (by rw [ge_k_o _ _ _ _ _ (by decide), ge_wS_o (by decide)]; exact s5) (by rw [ge_k_o _ _ _ _ _ (by decide), ge_wS_o (by decide)]; exact k2)) ⟨rfl, rfl, rfl⟩ (by decide) (by decide)
        · exact st_th hG hJ rfl rfl (fun q h => ge_wS_o h E) (c_whose_ok0_3 (c := 0) ok0 e2 hE ei hi s2 s6 k1) (by rw [ge_k_o _ _ _ _ _ (by decide), ge_wS_o (by decide)]; exact eq.symm) (m_whose_ok0 (c := 0) rfl (by decide) ok0.1 e2 hE qw s2 (by rw [ge_k_o _ _ _ _ _ (by decide), ge_wS_o (by decide)]; exact s5) (by rw [ge_k_o _ _ _ _ _ (by decide), ge_wS_o (by decide)]; exact k2)) ⟨rfl, rfl, rfl⟩ (by decide) (by decide)
      · rcases (by omega : S = 0 ∨ S = 1 ∨ S = 2 ∨ S = 3) with rfl | rfl | rfl | rfl
        · exact st_th hG hJ rfl rfl (fun q h => ge_wS_o h E) (c_whose_ok1_0 (c := 0) ok0 e2 hE ei hi s2 s6 k1 ek hk2) rfl (m_whose_ok1 (c := 0) rfl (by decide) ok0.1 e2 hE qw s2 (by rw [ge_k_o _ _ _ _ _ (by decide), ge_wS_o (by decide)]; exact s5) (by rw [ge_k_o _ _ _ _ _ (by decide), ge_wS_o (by decide)]; exact k2) (by rw [ge_k_o _ _ _ _ _ (by decide), ge_wS_o (by decide)]; exact ek2) hk2) ⟨rfl, rfl, rfl⟩ (by decide) (by decide)
        · exact st_th hG hJ rfl rfl (fun q h => ge_wS_o h E) (c_whose_ok1_1 (c := 0) ok0 e2 hE ei hi s2 s6 k1 ek hk2) rfl (m_whose_ok1 (c := 0) rfl (by decide) ok0.1 e2 hE qw s2 (by rw [ge_k_o _ _ _ _ _ (by decide), ge_wS_o (by decide)]; exact s5) (by rw [ge_k_o _ _ _ _ _ (by decide), ge_wS_o (by decide)]; exact k2) (by rw [ge_k_o _ _ _ _ _ (by decide), ge_wS_o (by decide)]; exact ek2) hk2) ⟨rfl, rfl, rfl⟩ (by decide) (by decide)
        · exact st_th hG hJ rfl rfl (fun q h => ge_wS_o h E) (c_whose_ok1_2 (c := 0) ok0 e2 hE ei hi s2 s6 k1 ek hk2) rfl (m_whose_ok1 (c := 0) rfl (by decide) ok0.1 e2 hE qw s2 (by rw [ge_k_o _ _ _ _ _ (by decide), ge_wS_o (by decide)]; exact s5) (by rw [ge_k_o _ _ _ _ _ (by decide), ge_wS_o (by decide)]; exact k2) (by rw [ge_k_o _ _ _ _ _ (by decide), ge_wS_o (by decide)]; exact ek2) hk2) ⟨rfl, rfl, rfl⟩ (by decide) (by decide)
        · exact st_th hG hJ rfl rfl (fun q h => ge_wS_o h E) (c_whose_ok1_3 (c := 0) ok0 e2 hE ei hi s2 s6 k1 ek hk2) rfl (m_whose_ok1 (c := 0) rfl (by decide) ok0.1 e2 hE qw s2 (by rw [ge_k_o _ _ _ _ _ (by decide), ge_wS_o (by decide)]; exact s5) (by rw [ge_k_o _ _ _ _ _ (by decide), ge_wS_o (by decide)]; exact k2) (by rw [ge_k_o _ _ _ _ _ (by decide), ge_wS_o (by decide)]; exact ek2) hk2) ⟨rfl, rfl, rfl⟩ (by decide) (by decide)
end U4
