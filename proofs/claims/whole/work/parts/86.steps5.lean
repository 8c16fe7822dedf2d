section V5
variable {X : ge_X} {n : Nat} {G : ge_G} {g g1 g2 : ge_G} {r r1 x hb : Nat → Int32} {c V E N u : Nat}
theorem gd_at {L : List Int32} {i : Nat} (h : i < L.length) : L.getD i 0 = L[i] := by simp [h]
theorem tx_eb (hu : u < 2) (hN : N ≤ 50) (ht : ∀ k, k < N → g 59 k = r (74 + k)) : e_b (p_txr r u) u N = e_b (t_r g u) u N := by
  funext k
  rw [t_b]
  unfold e_b
  by_cases h : k < N
  · rw [if_pos h, if_pos h, ht k h]
    unfold p_txr p_txk
    rw [pk_un (by omega), if_pos (by omega)]
    congr 1
    omega
  · rw [if_neg h, if_neg h]
theorem tx_is (hu : u < 2) (hN : N ≤ 50) (ht : ∀ k, k < N → g 59 k = r (74 + k)) (A B C : Int32) : q_is A B C 0 (e_all (p_txr r u) u N A B C) (q_all g u N) := by
  unfold e_all q_all
  rw [tx_eb hu hN ht]
  exact q_who_is (q_fac_is 5) 0
theorem p_mmh (M z : Int32) (hM : 0 < M) : p_max 0 (p_min M z) = p_held z 0 M := by
  unfold p_max p_min p_held
  simp only [Int32.lt_iff_toInt_lt, Int32.le_iff_toInt_le] at *
  by_cases h1 : z.toInt < M.toInt
  · rw [if_pos h1]
    by_cases h2 : (0 : Int32).toInt < z.toInt
    · rw [if_pos h2, if_pos (by omega), if_pos (by omega)]
    · rw [if_neg h2]
      by_cases h3 : (0 : Int32).toInt ≤ z.toInt
      · rw [if_pos h3, if_pos (by omega)]; exact Int32.toInt_inj.mp (by omega)
      · rw [if_neg h3]
  · rw [if_neg h1, if_pos hM, if_pos (by omega)]
    by_cases h3 : z.toInt ≤ M.toInt
    · rw [if_pos h3]; exact Int32.toInt_inj.mp (by omega)
    · rw [if_neg h3]
theorem p_law_tx (hu : u < 2) (hN : N ≤ 50) (h4 : r 4 = nI N) (A B C : Int32) : p_law (upd (p_txr r u) 4 0) u A B C = p_held (e_all (p_txr r u) u N A B C).2.2 0 (p_most u) := by
  have e6 : upd (p_txr r u) 4 0 (6 + u) = nI N := by rw [pk_un (by omega), p_txr_6]; exact h4
  have eb : e_b (upd (p_txr r u) 4 0) u N = e_b (p_txr r u) u N := by
    funext k
    unfold e_b
    rw [pk_un (by omega)]
  unfold p_law
  rw [e6, if_neg (nI_pos (by omega)), nI_clamp (by omega)]
  unfold e_all
  rw [eb]
theorem p_law_of3 (hs : p_sz r u) (h6 : r1 (6 + u) = r (6 + u)) (hh : ∀ k, k < 50 → r1 (144 + 50 * u + k) = r (144 + 50 * u + k)) (A B C : Int32) : p_law r1 u A B C = p_law r u A B C := by
  unfold p_law
  rw [h6]
  rcases hs with h | ⟨m, hm, e⟩
  · rw [if_pos h, if_pos h]
  · have eb : e_b r1 u m = e_b r u m := by
      funext k
      unfold e_b
      by_cases z : k < m
      · rw [if_pos z, if_pos z, hh k (by omega)]
      · rw [if_neg z, if_neg z]
    rw [e, if_neg (nI_pos (by omega)), if_neg (nI_pos (by omega)), nI_clamp (by omega)]
    unfold e_all
    rw [eb]
theorem tx_o (hu : u < 2) (i : Nat) (a : i ≠ 4) (b : i ≠ 6 + u) (d : i < 144 + 50 * u ∨ 194 + 50 * u ≤ i) : upd (p_txr r u) 4 0 i = r i := by
  unfold p_txr p_txk
  rw [pk_un a, pk_un b, if_neg (by omega)]
theorem p_inv_tx (hu : u < 2) (hN : N ≤ 50) (h4 : r 4 = nI N) (h : p_inv c r) : p_inv c (upd (p_txr r u) 4 0) := by
  have ha : ∀ i, i ≠ 4 → i ≠ 6 + u → i < 144 → upd (p_txr r u) 4 0 i = r i := fun i a b d => tx_o hu i a b (by omega)
  obtain ⟨h1, h2, ⟨q, hq, eq⟩, ⟨E, hE, e2, W, hW, e3, hv⟩, h5, h6, h7⟩ := h
  have hs : ∀ w, w < 2 → p_sz r w → p_sz (upd (p_txr r u) 4 0) w := by
    intro w hw hs
    by_cases e : w = u
    · subst e
      exact Or.inr ⟨N, hN, by rw [pk_un (by omega), p_txr_6]; exact h4⟩
    · exact p_sz_of (ha _ (by omega) (by omega) (by omega)) hs
  have po : ∀ w k, w < 6 → k < 4 → p_o (upd (p_txr r u) 4 0) w k = p_o r w k := fun w k hw hk => ha (50 + 4 * w + k) (by omega) (by omega) (by omega)
  have pe : ∀ w k, w < 8 → k < 4 → p_e (upd (p_txr r u) 4 0) w k = p_e r w k := fun w k hw hk => ha (18 + 4 * w + k) (by omega) (by omega) (by omega)
  exact ⟨hs 0 (by decide) h1, hs 1 (by decide) h2, ⟨q, hq, (ha 0 (by omega) (by omega) (by omega)).trans eq⟩, ⟨E, hE, (ha 2 (by omega) (by omega) (by omega)).trans e2, W, hW, (ha 3 (by omega) (by omega) (by omega)).trans e3, fun w hw s hs => by rw [po w s (by omega) (by omega)]; exact hv w hw s hs⟩, fun e he => by rw [pe e 0 he (by omega), pe e 1 he (by omega), pe e 2 he (by omega), pe e 3 he (by omega)]; exact h5 e he, fun w hw => by rw [po w 2 hw (by omega), po w 3 hw (by omega)]; exact h6 w hw, fun t ht => by rw [ha (8 + t) (by omega) (by omega) (by omega)]; exact h7 t ht⟩
theorem c_law_tx {p : Nat} (hu : u < 2) (hN : N ≤ 50) (ht : ∀ k, k < N → g 59 k = r (74 + k)) (hq : q_ok g u N) (h1 : g2 p 1 = nI (q_all g u N).2.2.length) (hc : ∀ k, k < (q_all g u N).2.2.length → g2 (p + 1) k = (q_all g u N).2.2.getD k 0) : c_law g2 p (fun A B C => (e_all (p_txr r u) u N A B C).2.2) := by
  refine ⟨_, q_all_len (g := g) (u := u) hN, h1, fun i hi => ?_, fun A B C => ?_⟩
  · rw [hc i hi, gd_at hi]
    exact (tx_is hu hN ht 1 1 1).2.2.2.1 _ (List.getElem_mem hi)
  · have e : c_code g2 (p + 1) (q_all g u N).2.2.length = (q_all g u N).2.2 := by
      apply List.ext_getElem (by simp [c_code])
      intro i q1 q2
      simp only [c_code, List.getElem_map, List.getElem_range]
      rw [hc i q2, gd_at q2]
    rw [e]
    exact (tx_is hu hN ht A B C).2.2.2.2 hq.1 []
theorem c_lw_tx (hu : u < 2) (hN : N ≤ 50) (h4 : r 4 = nI N) (ht : ∀ k, k < N → g 59 k = r (74 + k)) (hq : q_ok g u N) (h1 : g2 (13 + 2 * u) 1 = nI (q_all g u N).2.2.length) (hc : ∀ k, k < (q_all g u N).2.2.length → g2 (14 + 2 * u) k = (q_all g u N).2.2.getD k 0) (ho : ∀ q, 13 ≤ q → q ≤ 16 → ¬ (q = 13 + 2 * u ∨ q = 14 + 2 * u) → g2 q = g q) (hs : p_sz r 0 ∧ p_sz r 1) (h : c_lw g r) : c_lw g2 (upd (p_txr r u) 4 0) := by
  obtain ⟨⟨L, a1, a2⟩, ⟨M, b1, b2⟩⟩ := h
  obtain rfl | rfl : u = 0 ∨ u = 1 := by omega
  · refine ⟨⟨_, c_law_tx (by decide) hN ht hq h1 hc, fun A B C => ?_⟩, ⟨M, c_law_P (ho 15 (by omega) (by omega) (by omega)) (ho 16 (by omega) (by omega) (by omega)) b1, fun A B C => ?_⟩⟩
    · rw [p_law_tx (by decide) hN h4]; exact p_mmh 99 _ (by decide)
    · rw [b2, p_law_of3 (u := 1) hs.2 (tx_o (by decide) _ (by decide) (by decide) (by decide)) (fun k hk => tx_o (by decide) _ (by omega) (by omega) (by omega))]
  · refine ⟨⟨L, c_law_P (ho 13 (by omega) (by omega) (by omega)) (ho 14 (by omega) (by omega) (by omega)) a1, fun A B C => ?_⟩, ⟨_, c_law_tx (by decide) hN ht hq h1 hc, fun A B C => ?_⟩⟩
    · rw [a2, p_law_of3 (u := 0) hs.1 (tx_o (by decide) _ (by decide) (by decide) (by decide)) (fun k hk => tx_o (by decide) _ (by omega) (by omega) (by omega))]
    · rw [p_law_tx (by decide) hN h4]; exact p_mmh 1 _ (by decide)
theorem ge_tx_o {q : Nat} (h : q < 55 ∨ 58 < q) : ge_tx g u N q = g q := by
  unfold ge_tx
  rw [ge_up_row _ _ _ (by omega)]
  funext k
  unfold ge_rl
  rw [if_neg (by omega), if_neg (by omega), if_neg (by omega)]
  unfold ge_r0
  rw [ge_up_row _ _ _ (by omega), ge_up_row _ _ _ (by omega)]
theorem ge_tx_57 {k : Nat} (hk : k < (q_all g u N).2.2.length) : ge_tx g u N 57 k = (q_all g u N).2.2.getD k 0 := by
  unfold ge_tx
  rw [ge_up_row _ _ _ (by decide)]
  unfold ge_rl
  rw [if_neg (by decide), if_neg (by decide), if_pos rfl, if_pos hk]
theorem ge_tx_58 : ge_tx g u N 58 1 = 0 := by
  unfold ge_tx
  rw [ge_up_self]
set_option maxHeartbeats 1000000 in
theorem st_tx_ok {v : Int32} (hv : v = nI u) (hu : u < 2) (hG : ge_ag ge_SH G (ge_k g 25 (g 77) x hb)) (hJ : i_J n g (g 77) x (g 76)) (hN : N ≤ 50) (t1 : g 77 4 = nI N) (t3 : ∀ k, k < N → g 59 k = g 77 (74 + k)) (hq : q_ok g u N)
    (hc : ge_N X ge_SH YX11_text 47 [.ref (ge_ad X.1 0), .int v] (ge_k g 25 (g 77) x hb) (some (.int 1)) (ge_k g1 25 (g 77) x hb)) (ho : ∀ q, ¬ (q = 13 + 2 * u ∨ q = 14 + 2 * u) → ¬ (55 ≤ q ∧ q ≤ 58) → g1 q = g q) (h58 : g1 58 1 = 0) (h1 : g1 (13 + 2 * u) 1 = nI (q_all g u N).2.2.length) (h2 : ∀ k, k < (q_all g u N).2.2.length → g1 (14 + 2 * u) k = (q_all g u N).2.2.getD k 0) :
    st_is X n G YX11_text YX12_text [.ref (ge_ad X.1 0), .int v] [.ref (ge_ad X.1 76), .int v] := by
  obtain ⟨V, hok⟩ := hJ.1
  obtain ⟨M, w0, w1, w2, w3⟩ := id hJ.2.2.1
  have hi := tx_is hu hN t3 1 1 1
  have hqm : ((e_all (p_txr (g 77) u) u N 1 1 1).1 && decide ((e_all (p_txr (g 77) u) u N 1 1 1).2.1 = N)) = true := by
    rw [hi.1, hi.2.1, hq.1, hq.2]
    simp
  have hM : ∀ q, (q < 25 ∨ 34 < q) → q ≠ 76 → q ≠ 77 → q ≠ 80 → ge_m (ge_row (ge_k g1 25 (g 77) x hb) 80 (g 77)) (upd (p_txr (g 77) u) 4 0) (g 76) q = g1 q := fun q a b d e => by
    rw [ge_m_o _ _ _ d b, ge_row_ne _ _ e, ge_k_o _ _ _ _ _ (by omega)]
  refine st_go2 hG hc (ho 77 (by omega) (by omega)) (ho 76 (by omega) (by omega)) rfl (m_text_ok hv hu t1 hN hqm) (fun q q1 q2 => ge_row_ne _ _ (by omega)) (ge_ra_lo (fun i hi => tx_o hu i (by omega) (by omega) (by omega))) (i_J_W ⟨V, p_inv_tx hu hN t1 hok.1, (tx_o hu 3 (by omega) (by omega) (by omega)).trans hok.2.1, hok.2.2.1, p_uq_lo hok.2.2.1 (fun w s hw hs => tx_o hu (50 + 4 * w + s) (by omega) (by omega) (by omega)) hok.2.2.2.1, c_lw_tx hu hN t1 t3 hq ?_ (fun k hk => ?_) (fun q q1 q2 q3 => ?_) ⟨hok.1.1, hok.1.2.1⟩ hok.2.2.2.2⟩ ⟨0, by omega, pk_us, ?_, fun k hk => absurd hk (by omega)⟩ ⟨M, w0, ?_, ?_, fun k hk => ?_⟩ (fun q hq n1 n2 => ?_) ⟨rfl, rfl, rfl⟩ hJ.2.2.2.2.2.2.2 hJ) (by decide) (by decide)
  · rw [hM _ (by omega) (by omega) (by omega) (by omega)]; exact h1
  · rw [hM _ (by omega) (by omega) (by omega) (by omega)]; exact h2 k hk
  · rw [hM _ (by omega) (by omega) (by omega) (by omega)]; exact ho q q3 (by omega)
  · rw [hM _ (by omega) (by omega) (by omega) (by omega)]; exact h58
  · rw [tx_o hu 5 (by omega) (by omega) (by omega)]; exact w1
  · rw [hM _ (by omega) (by omega) (by omega) (by omega), ho 62 (by omega) (by omega)]; exact w2
  · rw [hM _ (by omega) (by omega) (by omega) (by omega), ho (62 + 1) (by omega) (by omega), tx_o hu (124 + k) (by omega) (by omega) (by omega)]; exact w3 k hk
  · unfold ge_L at hq
    rw [hM q (by omega) (by omega) (by omega) (by omega)]; exact ho q (by omega) (by omega)
set_option maxHeartbeats 1000000 in
theorem st_tx_no {v : Int32} (hv : v = nI u) (hu : u < 2) (hG : ge_ag ge_SH G (ge_k g 25 (g 77) x hb)) (hJ : i_J n g (g 77) x (g 76)) (hN : N ≤ 50) (t1 : g 77 4 = nI N) (t3 : ∀ k, k < N → g 59 k = g 77 (74 + k)) (hq : ¬ q_ok g u N)
    (hc : ge_N X ge_SH YX11_text 47 [.ref (ge_ad X.1 0), .int v] (ge_k g 25 (g 77) x hb) (some (.int (-10 - nI (q_all g u N).2.1))) (ge_k (ge_tx g u N) 25 (g 77) x hb)) :
    st_is X n G YX11_text YX12_text [.ref (ge_ad X.1 0), .int v] [.ref (ge_ad X.1 76), .int v] := by
  obtain ⟨V, hok⟩ := hJ.1
  obtain ⟨M, w0, w1, w2, w3⟩ := id hJ.2.2.1
  have hi := tx_is hu hN t3 1 1 1
  have hqm : ((e_all (p_txr (g 77) u) u N 1 1 1).1 && decide ((e_all (p_txr (g 77) u) u N 1 1 1).2.1 = N)) = false := by
    rw [hi.1, hi.2.1]
    apply Bool.eq_false_iff.mpr
    intro z
    rw [Bool.and_eq_true, decide_eq_true_iff] at z
    exact hq z
  have hM : ∀ q, (q < 25 ∨ 34 < q) → q ≠ 76 → q ≠ 77 → q ≠ 80 → ge_m (ge_row (ge_k (ge_tx g u N) 25 (g 77) x hb) 80 (g 77)) (upd (g 77) 4 0) (g 76) q = ge_tx g u N q := fun q a b d e => by
    rw [ge_m_o _ _ _ d b, ge_row_ne _ _ e, ge_k_o _ _ _ _ _ (by omega)]
  refine st_go2 hG hc (ge_tx_o (by omega)) (ge_tx_o (by omega)) (by rw [hi.2.1]) (m_text_no hv hu t1 hN hqm) (fun q q1 q2 => ge_row_ne _ _ (by omega)) (ge_ra_lo (fun i hi => pk_un (by omega))) (i_J_W ⟨V, p_ok_P (fun q q1 q2 => ?_) (p_ok_lo hok (fun i hi => pk_un (by omega)) (fun t ht => ?_))⟩ ⟨0, by omega, pk_us, ?_, fun k hk => absurd hk (by omega)⟩ ⟨M, w0, ?_, ?_, fun k hk => ?_⟩ (fun q hq n1 n2 => ?_) ⟨rfl, rfl, rfl⟩ hJ.2.2.2.2.2.2.2 hJ) (by decide) (by decide)
  · rw [hM _ (by omega) (by omega) (by omega) (by omega), ge_tx_o (by omega)]
  · rw [pk_un (by omega)]; exact hok.1.2.2.2.2.2.2 t ht
  · rw [hM _ (by omega) (by omega) (by omega) (by omega)]; exact ge_tx_58
  · rw [pk_un (by omega)]; exact w1
  · rw [hM _ (by omega) (by omega) (by omega) (by omega), ge_tx_o (by omega)]; exact w2
  · rw [hM _ (by omega) (by omega) (by omega) (by omega), ge_tx_o (by omega), pk_un (by omega)]; exact w3 k hk
  · unfold ge_L at hq
    rw [hM q (by omega) (by omega) (by omega) (by omega), ge_tx_o (by omega)]
theorem s_text (h : ge_I n G) (v : Int32) : st_is X n G YX11_text YX12_text [.ref (ge_ad X.1 0), .int v] [.ref (ge_ad X.1 76), .int v] := by
  obtain ⟨g, x, hb, hG, hJ⟩ := h
  obtain ⟨N, t0, t1, t2, t3⟩ := id hJ.2.1
  by_cases q : p_in v 0 1 = 0
  · exact st_e0 (k := 1) (by decide) (by decide) hG hJ rfl rfl (c_text_er q) (by decide) (m_text_er q) (by decide) (by decide)
  · obtain ⟨u, -, h2, eN⟩ := (p_in_x (lo := 0) (hi := 1) rfl rfl (by decide) (by decide) q)
    have ht : ∀ k, k < (q_all g u N).2.2.length → va_cpy (ge_tx g u N 57) (ge_tx g u N (14 + 2 * u)) 0 0 (q_all g u N).2.2.length k = (q_all g u N).2.2.getD k 0 := by
      intro k hk
      unfold va_cpy
      rw [if_pos (by omega), show 0 + (k - 0) = k by omega, ge_tx_57 hk]
    obtain rfl | rfl : u = 0 ∨ u = 1 := by omega
    · have ev : v = 0 := eN
      subst ev
      by_cases hq : q_ok g 0 N
      · refine st_tx_ok (u := 0) rfl (by decide) hG hJ t0 t1 t3 hq (c_text_ok0 t2 t0 hq) (fun q a b => ?_) ?_ ?_ (fun k hk => ?_)
        · rw [ge_row_ne _ _ (by omega), ge_up_row _ _ _ (by omega), ge_tx_o (by omega)]
        · rw [ge_row_ne _ _ (by decide), ge_up_row _ _ _ (by decide)]; exact ge_tx_58
        · rw [ge_row_ne _ _ (by decide)]; exact ge_up_self _ _ _ _
        · show ge_row _ 14 _ 14 k = _
          rw [ge_row_self]; exact ht k hk
      · exact st_tx_no (u := 0) rfl (by decide) hG hJ t0 t1 t3 hq (c_text_no0 t2 t0 hq)
    · have ev : v = 1 := eN
      subst ev
      by_cases hq : q_ok g 1 N
      · refine st_tx_ok (u := 1) rfl (by decide) hG hJ t0 t1 t3 hq (c_text_ok1 t2 t0 hq) (fun q a b => ?_) ?_ ?_ (fun k hk => ?_)
        · rw [ge_row_ne _ _ (by omega), ge_up_row _ _ _ (by omega), ge_tx_o (by omega)]
        · rw [ge_row_ne _ _ (by decide), ge_up_row _ _ _ (by decide)]; exact ge_tx_58
        · rw [ge_row_ne _ _ (by decide)]; exact ge_up_self _ _ _ _
        · show ge_row _ 16 _ 16 k = _
          rw [ge_row_self]; exact ht k hk
      · exact st_tx_no (u := 1) rfl (by decide) hG hJ t0 t1 t3 hq (c_text_no1 t2 t0 hq)
end V5
