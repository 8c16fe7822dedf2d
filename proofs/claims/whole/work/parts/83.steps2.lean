section U2
variable {X : ge_X} {n : Nat} {G : ge_G} {c V E : Nat}
section U20
variable {g g1 : ge_G} {r x hb f f1 : Nat → Int32} {y1 y2 : ge_Y} {d1 d2 : Nat} {a1 a2 : List Value} {v v2 : Int32}
/-- a thought: only the thought's World and the tried row change -/
theorem st_th (hG : ge_ag ge_SH G (ge_k g 25 r x hb)) (hJ : i_J n g r x f) (e7 : g 77 = r) (e6 : g 76 = f) (hL : ∀ q, q < 35 ∨ 44 < q → g1 q = g q) (hc : ge_N X ge_SH y1 d1 a1 (ge_k g 25 r x hb) (some (.int v)) (ge_k g1 25 r x hb)) (hv : v2 = v)
    (hm : ge_N X ge_SH y2 d2 a2 (ge_m (ge_k g1 25 r x hb) r f) (some (.int v2)) (ge_m (ge_row (ge_k g1 25 r x hb) 79 r) r f1)) (hf : f1 4 = f 4 ∧ f1 5 = f 5 ∧ f1 22 = f 22) (hd1 : d1 ≤ 1500) (hd2 : d2 ≤ 1500) : st_is X n G y1 y2 a1 a2 :=
  st_ro hG hJ hc (fun q hq => hL q (by unfold ge_L at hq; omega)) e7 e6 hv hm (fun q hq => ge_row_ne _ _ (by unfold ge_L at hq; omega)) hf hJ.2.2.2.2.2.2.2 hd1 hd2
/-- a thought that finds nothing -/
theorem st_te {k : Nat} (hk : 1 ≤ k) (hk2 : k ≤ 5) (hG : ge_ag ge_SH G (ge_k g 25 r x hb)) (hJ : i_J n g r x f) (e7 : g 77 = r) (e6 : g 76 = f) (hL : ∀ q, q < 35 ∨ 44 < q → g1 q = g q) (hc : ge_N X ge_SH y1 d1 a1 (ge_k g 25 r x hb) (some (.int v)) (ge_k (ge_up g1 75 k (g 75 k + 1)) 25 r x hb)) (hv : v2 = v)
    (hm : ge_N X ge_SH y2 d2 a2 (ge_m (ge_k (ge_up g1 75 k (g 75 k + 1)) 25 r x hb) r f) (some (.int v2)) (ge_m (ge_up (ge_row (ge_k (ge_up g1 75 k (g 75 k + 1)) 25 r x hb) 79 r) 81 k (ge_k (ge_up g1 75 k (g 75 k + 1)) 25 r x hb 81 k + 1)) r f1)) (hf : f1 4 = f 4 ∧ f1 5 = f 5 ∧ f1 22 = f 22) (hd1 : d1 ≤ 1500) (hd2 : d2 ≤ 1500) : st_is X n G y1 y2 a1 a2 := by
  refine st_er hk hk2 hG hJ hc (fun q hq n1 => ?_) ?_ e7 e6 hv hm (fun q hq n2 => ?_) ?_ hf hJ.2.2.2.2.2.2.2 hd1 hd2
  · rw [ge_up_row _ _ _ n1]; exact hL q (by unfold ge_L at hq; omega)
  · unfold ge_up; rw [ge_row_self, hL 75 (by omega)]
  · rw [ge_up_row _ _ _ n2, ge_row_ne _ _ (by unfold ge_L at hq; omega)]
  · unfold ge_up
    rw [ge_row_self, ge_row_ne _ _ (by decide), ge_k_o _ _ _ _ _ (by decide)]
theorem p_ok_G (hL : ∀ q, q < 35 ∨ 44 < q → g1 q = g q) (h : p_ok g c V r) : p_ok (ge_k g1 25 r x hb) c V r := p_ok_P (fun q h1 h2 => by rw [ge_k_o _ _ _ _ _ (by omega)]; exact hL q (by omega)) h
theorem p_ok_G5 {k : Nat} {z : Int32} (hL : ∀ q, q < 35 ∨ 44 < q → g1 q = g q) (h : p_ok g c V r) : p_ok (ge_k (ge_up g1 75 k z) 25 r x hb) c V r := p_ok_P (fun q h1 h2 => by rw [ge_k_o _ _ _ _ _ (by omega), ge_up_row _ _ _ (by omega)]; exact hL q (by omega)) h
theorem p_lo_hour {i : Nat} (h0 : i ≠ 0) (hi : i < 18) : p_hour r i = r i := by unfold p_hour; rw [pk_un h0, p_lo_ones i hi]
theorem p_lo_hrs {i : Nat} (h0 : i ≠ 0) (hi : i < 18) : ∀ N, p_hrs r N i = r i := by
  intro N
  induction N with
  | zero => rfl
  | succ N ih => show p_hour (p_hrs r N) i = r i; rw [p_lo_hour h0 hi, ih]
theorem p_0_hour : p_hour r 0 = r 0 + 1 := by
  show p_ones r (p_n (r 3)) 0 + 1 = _
  rw [p_lo_ones 0 (by omega)]
theorem p_0_hrs {q : Nat} (h : r 0 = nI q) : ∀ N, p_hrs r N 0 = nI (q + N) := by
  intro N
  induction N with
  | zero => exact h
  | succ N ih => show p_hour (p_hrs r N) 0 = _; rw [p_0_hour, ih, nI_1]; rfl
theorem p_drw_o {i E : Nat} (h : i ≠ 1 ∧ (i < 18 ∨ 50 ≤ i)) (e2 : r 2 = nI E) (hE : E ≤ 8) : p_drw r i = r i := by
  unfold p_drw
  split
  · exact pk_un h.1
  · rename_i h0
    have := p_drw_ix e2 h0 hE
    unfold p_ue
    rw [pk_un (by omega), pk_un h.1]
theorem p_lrs_o {i E : Nat} (h : i ≠ 0 ∧ i ≠ 1 ∧ i < 18) (e2 : r 2 = nI E) (hE : E ≤ 8) : ∀ N, p_lrs r N i = r i := by
  intro N
  induction N with
  | zero => rfl
  | succ N ih =>
    show p_hour (p_drw (p_lrs r N)) i = r i
    rw [p_lo_hour h.1 h.2.2, p_drw_o ⟨h.2.1, by omega⟩ (by rw [p_lrs_2]; exact e2) hE, ih]
theorem p_lrs_hi {i E : Nat} (h : 74 ≤ i) (e2 : r 2 = nI E) (hE : E ≤ 8) : ∀ N, p_ok g (c + N) V r → p_lrs r N i = r i := by
  intro N
  induction N generalizing c with
  | zero => intro _; rfl
  | succ N ih =>
    intro hk
    have hk1 : p_ok g (c + 1 + N) V r := by rw [show c + 1 + N = c + (N + 1) by omega]; exact hk
    show p_hour (p_drw (p_lrs r N)) i = r i
    rw [p_hi_hour (p_ok_drw (p_ok_lrs (c := c + 1) N hk1)).1 h, p_drw_o ⟨by omega, by omega⟩ (by rw [p_lrs_2]; exact e2) hE, ih (c := c + 1) hk1]
theorem p_0_lrs {q E : Nat} (h : r 0 = nI q) (e2 : r 2 = nI E) (hE : E ≤ 8) : ∀ N, p_lrs r N 0 = nI (q + N) := by
  intro N
  induction N with
  | zero => exact h
  | succ N ih => show p_hour (p_drw (p_lrs r N)) 0 = _; rw [p_0_hour, p_drw_o ⟨by omega, by omega⟩ (by rw [p_lrs_2]; exact e2) hE, ih, nI_1]; rfl
theorem p_lfs_o {j : Nat} (h : j ≠ 15 ∧ j ≠ 16) : ∀ N, p_lfs f r N j = f j := by
  intro N
  induction N with
  | zero => rfl
  | succ N ih => show p_tb _ _ _ j = f j; rw [p_tb_o h, ih]
theorem p_hrle {q N : Nat} {m : Int32} (hm : m = nI N) (h : r 0 = nI q) (hq : q ≤ 10000) (hN : N ≤ 100) (hh : r 0 + m ≤ 9999) : q + N ≤ 9999 := by
  rw [h, hm, nI_add] at hh
  exact (nI_leI (b := 9999) (by omega) (by decide)).mp hh
end U20
set_option maxHeartbeats 1000000 in
theorem s_hours (h : ge_I n G) (m : Int32) : st_is X n G YX11_hours YX12_hours [.ref (ge_ad X.1 0), .int m] [.ref (ge_ad X.1 76), .int m] := by
  obtain ⟨g, x, hb, hG, hJ⟩ := h
  obtain ⟨V, hok⟩ := hJ.1
  obtain ⟨E, hE, e2, hEv⟩ := p_ok_E hok
  have hV := hok.2.2.1
  have e3 := hok.2.1
  have hI := hok.1
  have hL := hok.2.2.2.2
  obtain ⟨hq, hq1, eh⟩ := hI.2.2.1
  by_cases q : p_in m 1 60 = 0
  · exact st_e0 (k := 1) (by decide) (by decide) hG hJ rfl rfl (c_hours_er q) (by decide) (m_hours_er q) (by decide) (by decide)
  · by_cases hh : g 77 0 + m ≤ 9999
    · obtain ⟨N, h1, h2, eN⟩ := (p_in_x (lo := 1) (hi := 60) rfl rfl (by decide) (by decide) q)
      have hle := p_hrle eN eh (by omega) (by omega) hh
      have ok0 : p_ok g (10000 - N + N) V (g 77) := by rw [show 10000 - N + N = 10000 by omega]; exact hok
      have ok1 := p_ok_hr (p_ok_hrs N ok0) ⟨hq + N, by omega, p_0_hrs eh N⟩
      exact st_rw hG hJ rfl rfl (c_hours_ok (c := 10000 - N) eN h1 h2 ok0 hJ.2.2.2.2.2.2.2 hh) (by rw [p_xh_15 (g := g) (c := 10000 - N) 0 rfl N ok0, Nat.zero_add]) rfl (m_hours_ok (c := 10000 - N) eN h1 h2 ok0.1 hh) ⟨V, ok1⟩ (p_lo_hrs (by decide) (by decide) N) (p_lo_hrs (by decide) (by decide) N) (fun i h1 _ => p_hi_hrs h1 N ok0.1) ⟨p_tb_o (by decide), p_tb_o (by decide), p_tb_o (by decide)⟩ (by rw [p_xh_18]; exact hJ.2.2.2.2.2.2.2) (by decide) (by decide)
    · exact st_e0 (k := 3) (by decide) (by decide) hG hJ rfl rfl (c_hours_st q hh) (by decide) (m_hours_st q hh) (by decide) (by decide)
set_option maxHeartbeats 1000000 in
theorem s_loose (h : ge_I n G) (m : Int32) : st_is X n G YX11_loose YX12_loose [.ref (ge_ad X.1 0), .int m] [.ref (ge_ad X.1 76), .int m] := by
  obtain ⟨g, x, hb, hG, hJ⟩ := h
  obtain ⟨V, hok⟩ := hJ.1
  obtain ⟨E, hE, e2, hEv⟩ := p_ok_E hok
  have hV := hok.2.2.1
  have e3 := hok.2.1
  have hI := hok.1
  have hL := hok.2.2.2.2
  obtain ⟨hq, hq1, eh⟩ := hI.2.2.1
  by_cases q : p_in m 1 40 = 0
  · exact st_e0 (k := 1) (by decide) (by decide) hG hJ rfl rfl (c_loose_er q) (by decide) (m_loose_er q) (by decide) (by decide)
  · by_cases hh : g 77 0 + m ≤ 9999
    · obtain ⟨N, h1, h2, eN⟩ := (p_in_x (lo := 1) (hi := 40) rfl rfl (by decide) (by decide) q)
      have hle := p_hrle eN eh (by omega) (by omega) hh
      have ok0 : p_ok g (10000 - N + N) V (g 77) := by rw [show 10000 - N + N = 10000 by omega]; exact hok
      have ok1 := p_ok_hr (p_ok_lrs N ok0) ⟨hq + N, by omega, p_0_lrs eh e2 hE N⟩
      exact st_rw hG hJ rfl rfl (c_loose_ok (c := 10000 - N) eN h1 h2 ok0 hE e2 hh hJ.2.2.2.2.2.2.2) rfl rfl (m_loose_ok (c := 10000 - N) (V := V) eN h1 h2 (p_ok_P (fun q h1 h2 => ge_k_o _ _ _ _ _ (by omega)) ok0) hE e2 hh) ⟨V, ok1⟩ (p_lrs_o (by decide) e2 hE N) (p_lrs_o (by decide) e2 hE N) (fun i h1 _ => p_lrs_hi h1 e2 hE N ok0) ⟨p_lfs_o (by decide) N, p_lfs_o (by decide) N, p_lfs_o (by decide) N⟩ (by rw [p_lxs_18]; exact hJ.2.2.2.2.2.2.2) (by decide) (by decide)
    · exact st_e0 (k := 3) (by decide) (by decide) hG hJ rfl rfl (c_loose_st q hh) (by decide) (m_loose_st q hh) (by decide) (by decide)
set_option maxHeartbeats 1000000 in
theorem s_then (h : ge_I n G) (m w a : Int32) : st_is X n G YX11_then YX12_then [.ref (ge_ad X.1 0), .int m, .int w, .int a] [.ref (ge_ad X.1 76), .int m, .int w, .int a] := by
  obtain ⟨g, x, hb, hG, hJ⟩ := h
  obtain ⟨V, hok⟩ := hJ.1
  obtain ⟨E, hE, e2, hEv⟩ := p_ok_E hok
  have hV := hok.2.2.1
  have e3 := hok.2.1
  have hI := hok.1
  have hL := hok.2.2.2.2
  by_cases q : p_in m 0 60 = 0 ∨ p_in w 0 (g 77 3 - 1) = 0 ∨ p_in a 0 3 = 0
  · exact st_e0 (k := 1) (by decide) (by decide) hG hJ rfl rfl (c_then_er q) (by decide) (m_then_er q) (by decide) (by decide)
  · obtain ⟨N, -, hN, eN⟩ := (p_in_x (lo := 0) (hi := 60) rfl rfl (by decide) (by decide) (fun z => q (Or.inl z)))
    obtain ⟨i, hi, ei⟩ := p_in_iE (by omega) e3 (fun z => q (Or.inr (Or.inl z)))
    obtain ⟨k, -, hk, ek⟩ := (p_in_x (lo := 0) (hi := 3) rfl rfl (by decide) (by decide) (fun z => q (Or.inr (Or.inr z))))
    exact st_th hG hJ rfl rfl (fun q h => ge_k_o _ _ _ _ _ (by omega)) (c_then_ok (c := 0) eN hN (p_ok_weak (c' := 0 + N) hok (by omega)) ei hi ek hk) rfl (m_then_ok (c := 0) eN hN (p_ok_weak (c' := 0 + N) hok (by omega)).1 ei hi hV e3 ek hk) ⟨p_tb_o (by decide), p_tb_o (by decide), p_tb_o (by decide)⟩ (by decide) (by decide)
set_option maxHeartbeats 1000000 in
theorem s_blind (h : ge_I n G) (m : Int32) : st_is X n G YX11_blind YX12_blind [.ref (ge_ad X.1 0), .int m] [.ref (ge_ad X.1 76), .int m] := by
  obtain ⟨g, x, hb, hG, hJ⟩ := h
  obtain ⟨V, hok⟩ := hJ.1
  obtain ⟨E, hE, e2, hEv⟩ := p_ok_E hok
  have hV := hok.2.2.1
  have e3 := hok.2.1
  have hI := hok.1
  have hL := hok.2.2.2.2
  by_cases q : p_in m 0 60 = 0
  · exact st_e0 (k := 1) (by decide) (by decide) hG hJ rfl rfl (c_blind_er q) (by decide) (m_blind_er q) (by decide) (by decide)
  · obtain ⟨N, -, hN, eN⟩ := (p_in_x (lo := 0) (hi := 60) rfl rfl (by decide) (by decide) q)
    exact st_th hG hJ rfl rfl (fun q h => ge_k_o _ _ _ _ _ (by omega)) (c_blind_ok (c := 0) (V := V) eN hN (p_ok_weak (c' := 0 + N) hok (by omega))) rfl (m_blind_ok (c := 0) (V := V) eN hN (p_ok_weak (c' := 0 + N) hok (by omega)).1 hV (by rw [p_3_hrs]; exact e3)) ⟨p_tb_o (by decide), p_tb_o (by decide), p_tb_o (by decide)⟩ (by decide) (by decide)
set_option maxHeartbeats 1000000 in
theorem s_dreads (h : ge_I n G) (m : Int32) : st_is X n G YX11_dreads YX12_dreads [.ref (ge_ad X.1 0), .int m] [.ref (ge_ad X.1 76), .int m] := by
  obtain ⟨g, x, hb, hG, hJ⟩ := h
  obtain ⟨V, hok⟩ := hJ.1
  obtain ⟨E, hE, e2, hEv⟩ := p_ok_E hok
  have hV := hok.2.2.1
  have e3 := hok.2.1
  have hI := hok.1
  have hL := hok.2.2.2.2
  by_cases q : p_in m 0 60 = 0
  · exact st_e0 (k := 1) (by decide) (by decide) hG hJ rfl rfl (c_dreads_er q) (by decide) (m_dreads_er q) (by decide) (by decide)
  · obtain ⟨N, -, hN, eN⟩ := (p_in_x (lo := 0) (hi := 60) rfl rfl (by decide) (by decide) q)
    exact st_th hG hJ rfl rfl (fun q h => ge_k_o _ _ _ _ _ (by omega)) (c_dreads_ok (c := 0) (V := V) eN hN (p_ok_weak (c' := 0 + N) hok (by omega))) (by rw [p_xh_17 (g := g) (c := 0) N (p_ok_weak (c' := 0 + N) hok (by omega))]; exact (Int32.zero_add _).symm) (m_dreads_ok (c := 0) eN hN (p_ok_weak (c' := 0 + N) hok (by omega)).1) ⟨p_tb_o (by decide), p_tb_o (by decide), p_tb_o (by decide)⟩ (by decide) (by decide)
set_option maxHeartbeats 1000000 in
theorem s_out (h : ge_I n G) (a : Int32) : st_is X n G YX11_out YX12_out [.ref (ge_ad X.1 0), .int a] [.ref (ge_ad X.1 76), .int a] := by
  obtain ⟨g, x, hb, hG, hJ⟩ := h
  obtain ⟨V, hok⟩ := hJ.1
  obtain ⟨E, hE, e2, hEv⟩ := p_ok_E hok
  have hV := hok.2.2.1
  have e3 := hok.2.1
  have hI := hok.1
  have hL := hok.2.2.2.2
  by_cases q : p_in a 0 1 = 0
  · exact st_e0 (k := 1) (by decide) (by decide) hG hJ rfl rfl (c_out_er q) (by decide) (m_out_er q) (by decide) (by decide)
  · by_cases hR : p_oR (g 77) < 60
    · obtain ⟨i, -, hi, rfl⟩ := (p_in_x (lo := 0) (hi := 1) rfl rfl (by decide) (by decide) q)
      rcases (by omega : i = 0 ∨ i = 1) with rfl | rfl
      · exact st_th hG hJ rfl rfl (fun q h => ge_t1_o h) (c_out_ok0 (c := 0) (p_ok_weak (c' := 0 + 61) hok (by omega)) hR) rfl (m_out_ok0 (c := 0) (p_ok_G (fun q h => ge_t1_o h) (p_ok_weak (c' := 0 + 61) hok (by omega))) hR) ⟨p_of_o (by decide), p_of_o (by decide), p_of_o (by decide)⟩ (by decide) (by decide)
      · exact st_th hG hJ rfl rfl (fun q h => ge_t1_o h) (c_out_ok1 (c := 0) (p_ok_weak (c' := 0 + 61) hok (by omega)) hR) rfl (m_out_ok1 (c := 0) (p_ok_G (fun q h => ge_t1_o h) (p_ok_weak (c' := 0 + 61) hok (by omega))) hR) ⟨p_of_o (by decide), p_of_o (by decide), p_of_o (by decide)⟩ (by decide) (by decide)
    · have hR : p_oR (g 77) = 60 := by have := (p_fi_in (p_op (g 77)) 60 0).2; unfold p_oR at hR ⊢; omega
      exact st_te (k := 2) (by decide) (by decide) hG hJ rfl rfl (fun q h => ge_t1_o h) (c_out_no (c := 0) (p_ok_weak (c' := 0 + 61) hok (by omega)) q hR) (by decide) (m_out_no (c := 0) (p_ok_G5 (fun q h => ge_t1_o h) (p_ok_weak (c' := 0 + 61) hok (by omega))) q hR) ⟨p_of_o (by decide), p_of_o (by decide), p_of_o (by decide)⟩ (by decide) (by decide)
set_option maxHeartbeats 1000000 in
theorem s_watch (h : ge_I n G) (w t : Int32) : st_is X n G YX11_watch YX12_watch [.ref (ge_ad X.1 0), .int w, .int t] [.ref (ge_ad X.1 76), .int w, .int t] := by
  obtain ⟨g, x, hb, hG, hJ⟩ := h
  obtain ⟨V, hok⟩ := hJ.1
  obtain ⟨E, hE, e2, hEv⟩ := p_ok_E hok
  have hV := hok.2.2.1
  have e3 := hok.2.1
  have hI := hok.1
  have hL := hok.2.2.2.2
  by_cases q : p_in w 0 (g 77 3 - 1) = 0
  · exact st_e0 (k := 1) (by decide) (by decide) hG hJ rfl rfl (c_watch_er1 q) (by decide) (m_watch_er1 q) (by decide) (by decide)
  · by_cases q2 : p_in t 0 9 = 0
    · exact st_e0 (k := 1) (by decide) (by decide) hG hJ rfl rfl (c_watch_er2 q q2) (by decide) (m_watch_er2 q q2) (by decide) (by decide)
    · obtain ⟨i, hi, ei⟩ := p_in_iE (by omega) e3 q
      obtain ⟨j, -, hj, ej⟩ := (p_in_x (lo := 0) (hi := 9) rfl rfl (by decide) (by decide) q2)
      by_cases hR : p_wR (g 77) i t < 60
      · exact st_th hG hJ rfl rfl (fun q h => ge_t1_o h) (c_watch_ok (c := 0) ei hi ej (by omega) (p_ok_weak (c' := 0 + 61) hok (by omega)) hR q q2) rfl (m_watch_ok (c := 0) ei hi ej (by omega) (p_ok_G (fun q h => ge_t1_o h) (p_ok_weak (c' := 0 + 61) hok (by omega))) hR q q2) ⟨p_wf_o (by decide), p_wf_o (by decide), p_wf_o (by decide)⟩ (by decide) (by decide)
      · have hR : p_wR (g 77) i t = 60 := by have := (p_fi_in (p_wp (g 77) i t) 60 0).2; unfold p_wR at hR ⊢; omega
        exact st_te (k := 2) (by decide) (by decide) hG hJ rfl rfl (fun q h => ge_t1_o h) (c_watch_no (c := 0) ei hi ej (by omega) (p_ok_weak (c' := 0 + 61) hok (by omega)) hR q q2) (by decide) (m_watch_no (c := 0) ei hi ej (by omega) (p_ok_G5 (fun q h => ge_t1_o h) (p_ok_weak (c' := 0 + 61) hok (by omega))) hR q q2) ⟨p_wf_o (by decide), p_wf_o (by decide), p_wf_o (by decide)⟩ (by decide) (by decide)
set_option maxHeartbeats 1000000 in
theorem s_agree (h : ge_I n G) (a : Int32) : st_is X n G YX11_agree YX12_agree [.ref (ge_ad X.1 0), .int a] [.ref (ge_ad X.1 76), .int a] := by
  obtain ⟨g, x, hb, hG, hJ⟩ := h
  obtain ⟨V, hok⟩ := hJ.1
  obtain ⟨E, hE, e2, hEv⟩ := p_ok_E hok
  have hV := hok.2.2.1
  have e3 := hok.2.1
  have hI := hok.1
  have hL := hok.2.2.2.2
  have ha := p_af_i (p_ag (g 77) V) (-1) 0 12
  by_cases q : p_in a 0 1 = 0
  · exact st_e0 (k := 1) (by decide) (by decide) hG hJ rfl rfl (c_agree_er q) (by decide) (m_agree_er q) (by decide) (by decide)
  · by_cases hR : (p_af (p_ag (g 77) V) (-1) 12).2 = 0
    · exact st_te (k := 2) (by decide) (by decide) hG hJ rfl rfl (fun q h => ge_t1_o h) (c_agree_no (c := 0) (p_ok_weak (c' := 0 + 12) hok (by omega)) q hR) (by decide) (m_agree_no (c := 0) (p_ok_G5 (fun q h => ge_t1_o h) (p_ok_weak (c' := 0 + 12) hok (by omega))) q (by rw [← ha.1]; exact hR)) ⟨p_gf_o (by decide), p_gf_o (by decide), p_gf_o (by decide)⟩ (by decide) (by decide)
    · obtain ⟨i, -, hi, rfl⟩ := (p_in_x (lo := 0) (hi := 1) rfl rfl (by decide) (by decide) q)
      rcases (by omega : i = 0 ∨ i = 1) with rfl | rfl
      · exact st_th hG hJ rfl rfl (fun q h => ge_t1_o h) (c_agree_ok0 (c := 0) (p_ok_weak (c' := 0 + 12) hok (by omega)) hR) (ha.2 (by omega)).symm (m_agree_ok0 (c := 0) (p_ok_G (fun q h => ge_t1_o h) (p_ok_weak (c' := 0 + 12) hok (by omega))) (by rw [← ha.1]; exact hR)) ⟨p_gf_o (by decide), p_gf_o (by decide), p_gf_o (by decide)⟩ (by decide) (by decide)
      · exact st_th hG hJ rfl rfl (fun q h => ge_t1_o h) (c_agree_ok1 (c := 0) (p_ok_weak (c' := 0 + 12) hok (by omega)) hR) (by rw [ha.1]) (m_agree_ok1 (c := 0) (p_ok_G (fun q h => ge_t1_o h) (p_ok_weak (c' := 0 + 12) hok (by omega))) (by rw [← ha.1]; exact hR)) ⟨p_gf_o (by decide), p_gf_o (by decide), p_gf_o (by decide)⟩ (by decide) (by decide)
set_option maxHeartbeats 1000000 in
theorem s_lend (h : ge_I n G) (m : Int32) : st_is X n G YX11_lend YX12_lend [.ref (ge_ad X.1 0), .int m] [.ref (ge_ad X.1 76), .int m] := by
  obtain ⟨g, x, hb, hG, hJ⟩ := h
  obtain ⟨V, hok⟩ := hJ.1
  obtain ⟨E, hE, e2, hEv⟩ := p_ok_E hok
  have hV := hok.2.2.1
  have e3 := hok.2.1
  have hI := hok.1
  have hL := hok.2.2.2.2
  by_cases q : p_in m 0 30 = 0
  · exact st_e0 (k := 1) (by decide) (by decide) hG hJ rfl rfl (c_lend_er q) (by decide) (m_lend_er q) (by decide) (by decide)
  · obtain ⟨N, -, hN, eN⟩ := (p_in_x (lo := 0) (hi := 30) rfl rfl (by decide) (by decide) q)
    exact st_th hG hJ rfl rfl (fun q h => gt_lo_o h E) (c_lend_ok (c := 0) (p_ok_weak (c' := 0 + N) hok (by omega)) eN hN hE e2) rfl (m_lend_ok (c := 0) (p_ok_G (fun q h => gt_lo_o h E) (p_ok_weak (c' := 0 + N) hok (by omega))) eN hN hE e2) ⟨p_lof_o (by decide) E, p_lof_o (by decide) E, p_lof_o (by decide) E⟩ (by decide) (by decide)
set_option maxHeartbeats 1000000 in
theorem s_swap (h : ge_I n G) (m : Int32) : st_is X n G YX11_swap YX12_swap [.ref (ge_ad X.1 0), .int m] [.ref (ge_ad X.1 76), .int m] := by
  obtain ⟨g, x, hb, hG, hJ⟩ := h
  obtain ⟨V, hok⟩ := hJ.1
  obtain ⟨E, hE, e2, hEv⟩ := p_ok_E hok
  have hV := hok.2.2.1
  have e3 := hok.2.1
  have hI := hok.1
  have hL := hok.2.2.2.2
  by_cases q : p_in m 0 30 = 0
  · exact st_e0 (k := 1) (by decide) (by decide) hG hJ rfl rfl (c_swap_er q) (by decide) (m_swap_er q) (by decide) (by decide)
  · obtain ⟨N, -, hN, eN⟩ := (p_in_x (lo := 0) (hi := 30) rfl rfl (by decide) (by decide) q)
    exact st_th hG hJ rfl rfl (fun q h => gt_wo_o h V) (c_swap_ok (c := 0) (p_ok_weak (c' := 0 + N) hok (by omega)) eN hN hE e2) rfl (m_swap_ok (c := 0) (p_ok_G (fun q h => gt_wo_o h V) (p_ok_weak (c' := 0 + N) hok (by omega))) eN hN hE e2) ⟨p_wof_o (by decide) V, p_wof_o (by decide) V, p_wof_o (by decide) V⟩ (by decide) (by decide)
set_option maxHeartbeats 1000000 in
theorem s_eyeFor (h : ge_I n G) (w s m a : Int32) : st_is X n G YX11_eyeFor YX12_eyeFor [.ref (ge_ad X.1 0), .int w, .int s, .int m, .int a] [.ref (ge_ad X.1 76), .int w, .int s, .int m, .int a] := by
  obtain ⟨g, x, hb, hG, hJ⟩ := h
  obtain ⟨V, hok⟩ := hJ.1
  obtain ⟨E, hE, e2, hEv⟩ := p_ok_E hok
  have hV := hok.2.2.1
  have e3 := hok.2.1
  have hI := hok.1
  have hL := hok.2.2.2.2
  by_cases q : p_in w 0 (g 77 3 - 1) = 0 ∨ p_in s 0 1 = 0 ∨ p_in m 0 60 = 0 ∨ p_in a 0 1 = 0
  · exact st_e0 (k := 1) (by decide) (by decide) hG hJ rfl rfl (c_eyeFor_er q) (by decide) (m_eyeFor_er q) (by decide) (by decide)
  · have q1 := fun z => q (Or.inl z)
    have q2 := fun z => q (Or.inr (Or.inl z))
    have q3 := fun z => q (Or.inr (Or.inr (Or.inl z)))
    have q4 := fun z => q (Or.inr (Or.inr (Or.inr z)))
    obtain ⟨i, hi, ei⟩ := p_in_iE (by omega) e3 q1
    obtain ⟨k, -, hk, ek⟩ := (p_in_x (lo := 0) (hi := 1) rfl rfl (by decide) (by decide) q2)
    obtain ⟨N, -, hN, eN⟩ := (p_in_x (lo := 0) (hi := 60) rfl rfl (by decide) (by decide) q3)
    by_cases h0 : E = 0
    · have e20 : g 77 2 = 0 := by rw [e2, h0]; rfl
      exact st_e0 (k := 2) (by decide) (by decide) hG hJ rfl rfl (c_eyeFor_no q1 q2 q3 q4 e20) (by decide) (m_eyeFor_no q1 q2 q3 q4 e20) (by decide) (by decide)
    · have hE0 : 0 < E := by omega
      obtain ⟨j, -, hj, rfl⟩ := (p_in_x (lo := 0) (hi := 1) rfl rfl (by decide) (by decide) q4)
      have hb0 : 0 ≤ p_eb (g 77) i k N 0 := by
        have hc := p_ok_hrs (g := g) (c := 0) N (p_ok_come (s := k) (e := 0) (p_ok_weak (c' := 0 + N) hok (by omega)) e2 hE hi (by omega) hE0)
        obtain ⟨z, hz, ez⟩ := (hc.1.2.2.2.2.2.1 i (by omega)).1
        show 0 ≤ p_o (p_hrs (p_come (g 77) i k (nI 0)) N) i 2
        rw [ez]
        exact (nI_leI (a := 0) (by decide) (by omega)).mpr (Nat.zero_le _)
      have hef : p_ef (p_eb (g 77) i k N) 0 E = p_ef (p_eb (g 77) i k N) (-1) E := by obtain ⟨E1, rfl⟩ : ∃ E1, E = E1 + 1 := ⟨E - 1, by omega⟩; exact p_ef_i _ _ _ hb0 E1
      rcases (by omega : j = 0 ∨ j = 1) with rfl | rfl
      · exact st_th hG hJ rfl rfl (fun q h => ge_ts_o h E) (c_eyeFor_ok0 (c := 0) (p_ok_weak (c' := 0 + N) hok (by omega)) ei hi ek hk eN hN hE e2 hE0) (by rw [hef]) (m_eyeFor_ok0 (c := 0) (p_ok_G (fun q h => ge_ts_o h E) (p_ok_weak (c' := 0 + N) hok (by omega))) ei hi ek hk eN hN hE e2 hE0) ⟨p_fs_o (by decide) E, p_fs_o (by decide) E, p_fs_o (by decide) E⟩ (by decide) (by decide)
      · exact st_th hG hJ rfl rfl (fun q h => ge_ts_o h E) (c_eyeFor_ok1 (c := 0) (p_ok_weak (c' := 0 + N) hok (by omega)) ei hi ek hk eN hN hE e2 hE0) (by rw [hef]) (m_eyeFor_ok1 (c := 0) (p_ok_G (fun q h => ge_ts_o h E) (p_ok_weak (c' := 0 + N) hok (by omega))) ei hi ek hk eN hN hE e2 hE0) ⟨p_fs_o (by decide) E, p_fs_o (by decide) E, p_fs_o (by decide) E⟩ (by decide) (by decide)
set_option maxHeartbeats 1000000 in
theorem s_odds (h : ge_I n G) (w s m a : Int32) : st_is X n G YX11_odds YX12_odds [.ref (ge_ad X.1 0), .int w, .int s, .int m, .int a] [.ref (ge_ad X.1 76), .int w, .int s, .int m, .int a] := by
  obtain ⟨g, x, hb, hG, hJ⟩ := h
  obtain ⟨V, hok⟩ := hJ.1
  obtain ⟨E, hE, e2, hEv⟩ := p_ok_E hok
  have hV := hok.2.2.1
  have e3 := hok.2.1
  have hI := hok.1
  have hL := hok.2.2.2.2
  by_cases q : p_in w 0 (g 77 3 - 1) = 0 ∨ p_in s 0 9 = 0 ∨ p_in m 0 60 = 0 ∨ p_in a 0 1 = 0
  · exact st_e0 (k := 1) (by decide) (by decide) hG hJ rfl rfl (c_odds_er q) (by decide) (m_odds_er q) (by decide) (by decide)
  · have q1 := fun z => q (Or.inl z)
    have q2 := fun z => q (Or.inr (Or.inl z))
    have q3 := fun z => q (Or.inr (Or.inr (Or.inl z)))
    have q4 := fun z => q (Or.inr (Or.inr (Or.inr z)))
    obtain ⟨i, hi, ei⟩ := p_in_iE (by omega) e3 q1
    obtain ⟨k, -, hk, ek⟩ := (p_in_x (lo := 0) (hi := 9) rfl rfl (by decide) (by decide) q2)
    obtain ⟨N, -, hN, eN⟩ := (p_in_x (lo := 0) (hi := 60) rfl rfl (by decide) (by decide) q3)
    by_cases h0 : E = 0
    · have e20 : g 77 2 = 0 := by rw [e2, h0]; rfl
      exact st_e0 (k := 2) (by decide) (by decide) hG hJ rfl rfl (c_odds_no q1 q2 q3 q4 e20) (by decide) (m_odds_no q1 q2 q3 q4 e20) (by decide) (by decide)
    · have hE0 : 0 < E := by omega
      obtain ⟨j, -, hj, rfl⟩ := (p_in_x (lo := 0) (hi := 1) rfl rfl (by decide) (by decide) q4)
      rcases (by omega : j = 0 ∨ j = 1) with rfl | rfl
      · exact st_th hG hJ rfl rfl (fun q h => ge_ts_o h E) (c_odds_ok0 (c := 0) (p_ok_weak (c' := 0 + N) hok (by omega)) ei hi ek hk eN hN hE e2 hE0) rfl (m_odds_ok0 (c := 0) (p_ok_G (fun q h => ge_ts_o h E) (p_ok_weak (c' := 0 + N) hok (by omega))) ei hi ek hk eN hN hE e2 hE0) ⟨p_fs_o (by decide) E, p_fs_o (by decide) E, p_fs_o (by decide) E⟩ (by decide) (by decide)
      · exact st_th hG hJ rfl rfl (fun q h => ge_ts_o h E) (c_odds_ok1 (c := 0) (p_ok_weak (c' := 0 + N) hok (by omega)) ei hi ek hk eN hN hE e2 hE0) rfl (m_odds_ok1 (c := 0) (p_ok_G (fun q h => ge_ts_o h E) (p_ok_weak (c' := 0 + N) hok (by omega))) ei hi ek hk eN hN hE e2 hE0) ⟨p_fs_o (by decide) E, p_fs_o (by decide) E, p_fs_o (by decide) E⟩ (by decide) (by decide)
end U2
