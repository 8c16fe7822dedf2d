section F4
variable {X : ge_X} {g : ge_G} {r x hb r2 x2 hb2 : Nat → Int32} {c : Nat}
theorem ge_k_at {pw q : Nat} (h : pw ≤ q) (h2 : q ≤ pw + 9) (g' : ge_G) : ge_k g pw r x hb q = ge_k g' pw r x hb q := by
  unfold ge_k
  repeat' split
  all_goals first | rfl | omega
theorem ge_k_comm : ge_k (ge_k g 25 r x hb) 35 r2 x2 hb2 = ge_k (ge_k g 35 r2 x2 hb2) 25 r x hb := by
  funext q
  rcases (by omega : q < 25 ∨ (25 ≤ q ∧ q ≤ 34) ∨ (35 ≤ q ∧ q ≤ 44) ∨ 44 < q) with h | h | h | h
  · rw [ge_k_o _ 35 _ _ _ (Or.inl (by omega)), ge_k_o _ 25 _ _ _ (Or.inl h), ge_k_o _ 25 _ _ _ (Or.inl h), ge_k_o _ 35 _ _ _ (Or.inl (by omega))]
  · rw [ge_k_o _ 35 _ _ _ (Or.inl (by omega))]
    exact ge_k_at h.1 h.2 _
  · rw [ge_k_o _ 25 _ _ _ (Or.inr (by omega))]
    exact ge_k_at h.1 h.2 _
  · rw [ge_k_o _ 35 _ _ _ (Or.inr (by omega)), ge_k_o _ 25 _ _ _ (Or.inr (by omega)), ge_k_o _ 25 _ _ _ (Or.inr (by omega)), ge_k_o _ 35 _ _ _ (Or.inr (by omega))]
theorem c_lw_k {pw : Nat} (hp : 16 < pw) (h : c_lw g r) : c_lw (ge_k g pw r2 x hb) r := by
  obtain ⟨⟨L, a1, a2⟩, ⟨N, b1, b2⟩⟩ := h
  exact ⟨⟨L, c_law_k (by omega) a1, a2⟩, ⟨N, c_law_k (by omega) b1, b2⟩⟩
theorem p_ok_k {pw V : Nat} (hp : 16 < pw) (h : p_ok g c V r) : p_ok (ge_k g pw r2 x hb) c V r := ⟨h.1, h.2.1, h.2.2.1, h.2.2.2.1, c_lw_k hp h.2.2.2.2⟩
/-- the thought World behind n hours -/
def ge_th (g : ge_G) (r : Nat → Int32) (V N : Nat) : ge_G := ge_k g 35 (p_hrs r N) (p_xh (p_x0 (g 35)) r V N) (p_hh (g 44) r V N)
set_option maxHeartbeats 400000 in
theorem c_think {n : Int32} {N V : Nat} (hN : n = nI N) (hN2 : N ≤ 60) (h : p_ok g (c + N) V r) : ge_N X ge_SH YX11_thinkAhead 6 [.ref (ge_ad X.1 0), .int n] (ge_k g 25 r x hb) none (ge_k (ge_th g r V N) 25 r x hb) := by
  refine gq_ofB (l := [(0, .ref (ge_ad X.1 0)), (1, .int n)]) (by decide) (Nat.le_of_ble_eq_true rfl) rfl ?_
  refine gq_aload_n (pc := 0) dX11_thinkAhead_0 rfl ?_
  refine gq_getr (pc := 1) dX11_thinkAhead_1 fl_X11_64_11 sh_0 rfl ?_
  refine gq_aload_n (pc := 4) dX11_thinkAhead_4 rfl ?_
  refine gq_getr (pc := 5) dX11_thinkAhead_5 fl_X11_60_11 sh_0 rfl ?_
  refine gq_rV1v (pc := 8) dX11_thinkAhead_8 cv_X11_223 sh_35 (k_copy_35_25 (ge_wr_k 25)) ⟨by decide, by decide⟩ rfl rfl (Nat.le_of_ble_eq_true rfl) ?_
  refine gq_aload_n (pc := 11) dX11_thinkAhead_11 rfl ?_
  refine gq_getr (pc := 12) dX11_thinkAhead_12 fl_X11_64_11 sh_0 rfl ?_
  refine gq_iload_n (pc := 15) dX11_thinkAhead_15 rfl ?_
  refine gq_rV1v (pc := 16) dX11_thinkAhead_16 cv_X11_214 sh_35 (k_hours_35 (c := c) (V := V) hN (by omega) (p_ok_k (by decide) h) rfl) ⟨by decide, by decide⟩ rfl rfl (Nat.le_of_ble_eq_true rfl) ?_
  exact gq_vret (pc := 19) rfl dX11_thinkAhead_19 ⟨rfl, by rw [ge_k_comm]; rfl⟩
theorem ge_th_at {V N : Nat} : ge_k (ge_th g r V N) 25 r x hb = ge_k (ge_k g 25 r x hb) 35 (p_hrs r N) (p_xh (p_x0 (g 35)) r V N) (p_hh (g 44) r V N) := by rw [ge_k_comm]; rfl
set_option maxHeartbeats 400000 in
theorem c_then_ok {n w a : Int32} {N V i k : Nat} (hN : n = nI N) (hN2 : N ≤ 60) (h : p_ok g (c + N) V r) (hw : w = nI i) (hi : i < V) (hk : a = nI k) (hk2 : k ≤ 3) : ge_N X ge_SH YX11_then 7 [.ref (ge_ad X.1 0), .int n, .int w, .int a] (ge_k g 25 r x hb) (some (.int (p_o (p_hrs r N) i k))) (ge_k (ge_th g r V N) 25 r x hb) := by
  have e3 := h.2.1
  have hV := h.2.2.1
  refine gq_ofB (l := [(0, .ref (ge_ad X.1 0)), (1, .int n), (2, .int w), (3, .int a)]) (by decide) (Nat.le_of_ble_eq_true rfl) rfl ?_
  refine gq_iload_n (pc := 0) dX11_then_0 rfl ?_
  refine gq_iconst (pc := 1) dX11_then_1 kc_0 ?_
  refine gq_bipush (pc := 2) dX11_then_2 kb_60 ?_
  refine gq_rS3i (pc := 4) dX11_then_4 cs_X11_105 (c_outside _ _ _) ⟨by decide, by decide⟩ (Nat.le_of_ble_eq_true rfl) ?_
  refine gq_if_ne (pc := 7) 27 dX11_then_7 (by decide) (fun h_7 => ?_) (fun h_7 => ?_)
  · exact absurd (p_nt_0.mpr (p_in_le (N := 60) hN hN2 (by decide))) h_7
  · refine gq_aload_n (pc := 10) dX11_then_10 rfl ?_
    refine gq_iload_n (pc := 11) dX11_then_11 rfl ?_
    refine gq_rV1i (pc := 12) dX11_then_12 cv_X11_157 sh_0 (c_noWearer _) ⟨by decide, by decide⟩ rfl rfl (Nat.le_of_ble_eq_true rfl) ?_
    refine gq_if_ne (pc := 15) 27 dX11_then_15 (by decide) (fun h_15 => ?_) (fun h_15 => ?_)
    · exact absurd (p_nt_0.mpr (p_in_E hw hi (by omega) e3)) h_15
    · refine gq_iload_n (pc := 18) dX11_then_18 rfl ?_
      refine gq_iconst (pc := 19) dX11_then_19 kc_0 ?_
      refine gq_iconst (pc := 20) dX11_then_20 kc_3 ?_
      refine gq_rS3i (pc := 21) dX11_then_21 cs_X11_105 (c_outside _ _ _) ⟨by decide, by decide⟩ (Nat.le_of_ble_eq_true rfl) ?_
      refine gq_if_eq (pc := 24) 33 dX11_then_24 (by decide) (fun h_24 => ?_) (fun h_24 => ?_)
      · refine gq_aload_n (pc := 33) dX11_then_33 rfl ?_
        refine gq_iload_n (pc := 34) dX11_then_34 rfl ?_
        refine gq_rV1v (pc := 35) dX11_then_35 cv_X11_220 sh_0 (c_think hN (by omega) h) ⟨by decide, by decide⟩ rfl rfl (Nat.le_of_ble_eq_true rfl) ?_
        rw [ge_th_at]
        refine gq_aload_n (pc := 38) dX11_then_38 rfl ?_
        refine gq_getr (pc := 39) dX11_then_39 fl_X11_64_11 sh_0 rfl ?_
        refine gq_iload_n (pc := 42) dX11_then_42 rfl ?_
        refine gq_iload_n (pc := 43) dX11_then_43 rfl ?_
        refine gq_rV2i (pc := 44) dX11_then_44 cv_X11_163 sh_35 (k_has_35 hw (by omega) hk (by omega)) ⟨by decide, by decide⟩ rfl rfl (Nat.le_of_ble_eq_true rfl) ?_
        exact gq_iret (pc := 47) rfl dX11_then_47 ⟨rfl, rfl⟩
      · exact absurd (p_nt_0.mpr (p_in_le (N := 3) hk hk2 (by decide))) h_24
set_option maxHeartbeats 400000 in
theorem c_then_er {n w a : Int32} (h : p_in n 0 60 = 0 ∨ p_in w 0 (r 3 - 1) = 0 ∨ p_in a 0 3 = 0) : ge_N X ge_SH YX11_then 7 [.ref (ge_ad X.1 0), .int n, .int w, .int a] (ge_k g 25 r x hb) (some (.int (-1000000000 - 1))) (ge_k (ge_up g 75 1 (g 75 1 + 1)) 25 r x hb) := by
  refine gq_ofB (l := [(0, .ref (ge_ad X.1 0)), (1, .int n), (2, .int w), (3, .int a)]) (by decide) (Nat.le_of_ble_eq_true rfl) rfl ?_
  refine gq_iload_n (pc := 0) dX11_then_0 rfl ?_
  refine gq_iconst (pc := 1) dX11_then_1 kc_0 ?_
  refine gq_bipush (pc := 2) dX11_then_2 kb_60 ?_
  refine gq_rS3i (pc := 4) dX11_then_4 cs_X11_105 (c_outside _ _ _) ⟨by decide, by decide⟩ (Nat.le_of_ble_eq_true rfl) ?_
  refine gq_if_ne (pc := 7) 27 dX11_then_7 (by decide) (fun h_7 => ?_) (fun h_7 => ?_)
  · refine gq_aload_n (pc := 27) dX11_then_27 rfl ?_
    refine gq_iconst (pc := 28) dX11_then_28 kc_1 ?_
    refine gq_rV1i (pc := 29) dX11_then_29 cv_X11_109 sh_0 (c_error kl_1 (by decide)) ⟨by decide, by decide⟩ rfl rfl (Nat.le_of_ble_eq_true rfl) ?_
    exact gq_iret (pc := 32) rfl dX11_then_32 ⟨rfl, rfl⟩
  · refine gq_aload_n (pc := 10) dX11_then_10 rfl ?_
    refine gq_iload_n (pc := 11) dX11_then_11 rfl ?_
    refine gq_rV1i (pc := 12) dX11_then_12 cv_X11_157 sh_0 (c_noWearer _) ⟨by decide, by decide⟩ rfl rfl (Nat.le_of_ble_eq_true rfl) ?_
    refine gq_if_ne (pc := 15) 27 dX11_then_15 (by decide) (fun h_15 => ?_) (fun h_15 => ?_)
    · refine gq_aload_n (pc := 27) dX11_then_27 rfl ?_
      refine gq_iconst (pc := 28) dX11_then_28 kc_1 ?_
      refine gq_rV1i (pc := 29) dX11_then_29 cv_X11_109 sh_0 (c_error kl_1 (by decide)) ⟨by decide, by decide⟩ rfl rfl (Nat.le_of_ble_eq_true rfl) ?_
      exact gq_iret (pc := 32) rfl dX11_then_32 ⟨rfl, rfl⟩
    · refine gq_iload_n (pc := 18) dX11_then_18 rfl ?_
      refine gq_iconst (pc := 19) dX11_then_19 kc_0 ?_
      refine gq_iconst (pc := 20) dX11_then_20 kc_3 ?_
      refine gq_rS3i (pc := 21) dX11_then_21 cs_X11_105 (c_outside _ _ _) ⟨by decide, by decide⟩ (Nat.le_of_ble_eq_true rfl) ?_
      refine gq_if_eq (pc := 24) 33 dX11_then_24 (by decide) (fun h_24 => ?_) (fun h_24 => ?_)
      · exact (h.elim (p_nt_0.mp h_7) (fun q => q.elim (p_nt_0.mp h_15) (p_nt_0.mp h_24))).elim
      · refine gq_aload_n (pc := 27) dX11_then_27 rfl ?_
        refine gq_iconst (pc := 28) dX11_then_28 kc_1 ?_
        refine gq_rV1i (pc := 29) dX11_then_29 cv_X11_109 sh_0 (c_error kl_1 (by decide)) ⟨by decide, by decide⟩ rfl rfl (Nat.le_of_ble_eq_true rfl) ?_
        exact gq_iret (pc := 32) rfl dX11_then_32 ⟨rfl, rfl⟩
set_option maxHeartbeats 400000 in
theorem c_blind_ok {n : Int32} {N V : Nat} (hN : n = nI N) (hN2 : N ≤ 60) (h : p_ok g (c + N) V r) : ge_N X ge_SH YX11_blind 7 [.ref (ge_ad X.1 0), .int n] (ge_k g 25 r x hb) (some (.int (1023 &&& (p_sn (p_hrs r N) V ^^^ -1)))) (ge_k (ge_th g r V N) 25 r x hb) := by
  have hk := p_ok_hrs (g := g) (c := c) (V := V) (r := r) N h
  refine gq_ofB (l := [(0, .ref (ge_ad X.1 0)), (1, .int n)]) (by decide) (Nat.le_of_ble_eq_true rfl) rfl ?_
  refine gq_iload_n (pc := 0) dX11_blind_0 rfl ?_
  refine gq_iconst (pc := 1) dX11_blind_1 kc_0 ?_
  refine gq_bipush (pc := 2) dX11_blind_2 kb_60 ?_
  refine gq_rS3i (pc := 4) dX11_blind_4 cs_X11_105 (c_outside _ _ _) ⟨by decide, by decide⟩ (Nat.le_of_ble_eq_true rfl) ?_
  refine gq_if_eq (pc := 7) 16 dX11_blind_7 (by decide) (fun h_7 => ?_) (fun h_7 => ?_)
  · refine gq_aload_n (pc := 16) dX11_blind_16 rfl ?_
    refine gq_iload_n (pc := 17) dX11_blind_17 rfl ?_
    refine gq_rV1v (pc := 18) dX11_blind_18 cv_X11_220 sh_0 (c_think hN (by omega) h) ⟨by decide, by decide⟩ rfl rfl (Nat.le_of_ble_eq_true rfl) ?_
    rw [ge_th_at]
    refine gq_sipush (pc := 21) dX11_blind_21 kq_1023 ?_
    refine gq_aload_n (pc := 24) dX11_blind_24 rfl ?_
    refine gq_getr (pc := 25) dX11_blind_25 fl_X11_64_11 sh_0 rfl ?_
    refine gq_rV0i (pc := 28) dX11_blind_28 cv_X11_259 sh_35 (k_seenW_35 hk.2.2.1 hk.2.1) ⟨by decide, by decide⟩ rfl rfl (Nat.le_of_ble_eq_true rfl) ?_
    refine gq_iconst (pc := 31) dX11_blind_31 kc_m1 ?_
    refine gq_ixor (pc := 32) dX11_blind_32 ?_
    refine gq_iand (pc := 33) dX11_blind_33 ?_
    exact gq_iret (pc := 34) rfl dX11_blind_34 ⟨rfl, rfl⟩
  · exact absurd (p_nt_0.mpr (p_in_le (N := 60) hN hN2 (by decide))) h_7
set_option maxHeartbeats 400000 in
theorem c_blind_er {n : Int32} (h : p_in n 0 60 = 0) : ge_N X ge_SH YX11_blind 7 [.ref (ge_ad X.1 0), .int n] (ge_k g 25 r x hb) (some (.int (-1000000000 - 1))) (ge_k (ge_up g 75 1 (g 75 1 + 1)) 25 r x hb) := by
  refine gq_ofB (l := [(0, .ref (ge_ad X.1 0)), (1, .int n)]) (by decide) (Nat.le_of_ble_eq_true rfl) rfl ?_
  refine gq_iload_n (pc := 0) dX11_blind_0 rfl ?_
  refine gq_iconst (pc := 1) dX11_blind_1 kc_0 ?_
  refine gq_bipush (pc := 2) dX11_blind_2 kb_60 ?_
  refine gq_rS3i (pc := 4) dX11_blind_4 cs_X11_105 (c_outside _ _ _) ⟨by decide, by decide⟩ (Nat.le_of_ble_eq_true rfl) ?_
  refine gq_if_eq (pc := 7) 16 dX11_blind_7 (by decide) (fun h_7 => ?_) (fun h_7 => ?_)
  · exact absurd h (p_nt_0.mp h_7)
  · refine gq_aload_n (pc := 10) dX11_blind_10 rfl ?_
    refine gq_iconst (pc := 11) dX11_blind_11 kc_1 ?_
    refine gq_rV1i (pc := 12) dX11_blind_12 cv_X11_109 sh_0 (c_error kl_1 (by decide)) ⟨by decide, by decide⟩ rfl rfl (Nat.le_of_ble_eq_true rfl) ?_
    exact gq_iret (pc := 15) rfl dX11_blind_15 ⟨rfl, rfl⟩
set_option maxHeartbeats 400000 in
theorem c_dreads_ok {n : Int32} {N V : Nat} (hN : n = nI N) (hN2 : N ≤ 60) (h : p_ok g (c + N) V r) : ge_N X ge_SH YX11_dreads 7 [.ref (ge_ad X.1 0), .int n] (ge_k g 25 r x hb) (some (.int (p_xh (p_x0 (g 35)) r V N 17))) (ge_k (ge_th g r V N) 25 r x hb) := by
  refine gq_ofB (l := [(0, .ref (ge_ad X.1 0)), (1, .int n)]) (by decide) (Nat.le_of_ble_eq_true rfl) rfl ?_
  refine gq_iload_n (pc := 0) dX11_dreads_0 rfl ?_
  refine gq_iconst (pc := 1) dX11_dreads_1 kc_0 ?_
  refine gq_bipush (pc := 2) dX11_dreads_2 kb_60 ?_
  refine gq_rS3i (pc := 4) dX11_dreads_4 cs_X11_105 (c_outside _ _ _) ⟨by decide, by decide⟩ (Nat.le_of_ble_eq_true rfl) ?_
  refine gq_if_eq (pc := 7) 16 dX11_dreads_7 (by decide) (fun h_7 => ?_) (fun h_7 => ?_)
  · refine gq_aload_n (pc := 16) dX11_dreads_16 rfl ?_
    refine gq_iload_n (pc := 17) dX11_dreads_17 rfl ?_
    refine gq_rV1v (pc := 18) dX11_dreads_18 cv_X11_220 sh_0 (c_think hN (by omega) h) ⟨by decide, by decide⟩ rfl rfl (Nat.le_of_ble_eq_true rfl) ?_
    rw [ge_th_at]
    refine gq_aload_n (pc := 21) dX11_dreads_21 rfl ?_
    refine gq_getr (pc := 22) dX11_dreads_22 fl_X11_64_11 sh_0 rfl ?_
    refine kq_get17 (pw := 35) (pc := 25) (by decide) dX11_dreads_25 fl_X11_265_10 ?_
    exact gq_iret (pc := 28) rfl dX11_dreads_28 ⟨rfl, rfl⟩
  · exact absurd (p_nt_0.mpr (p_in_le (N := 60) hN hN2 (by decide))) h_7
set_option maxHeartbeats 400000 in
theorem c_dreads_er {n : Int32} (h : p_in n 0 60 = 0) : ge_N X ge_SH YX11_dreads 7 [.ref (ge_ad X.1 0), .int n] (ge_k g 25 r x hb) (some (.int (-1000000000 - 1))) (ge_k (ge_up g 75 1 (g 75 1 + 1)) 25 r x hb) := by
  refine gq_ofB (l := [(0, .ref (ge_ad X.1 0)), (1, .int n)]) (by decide) (Nat.le_of_ble_eq_true rfl) rfl ?_
  refine gq_iload_n (pc := 0) dX11_dreads_0 rfl ?_
  refine gq_iconst (pc := 1) dX11_dreads_1 kc_0 ?_
  refine gq_bipush (pc := 2) dX11_dreads_2 kb_60 ?_
  refine gq_rS3i (pc := 4) dX11_dreads_4 cs_X11_105 (c_outside _ _ _) ⟨by decide, by decide⟩ (Nat.le_of_ble_eq_true rfl) ?_
  refine gq_if_eq (pc := 7) 16 dX11_dreads_7 (by decide) (fun h_7 => ?_) (fun h_7 => ?_)
  · exact absurd h (p_nt_0.mp h_7)
  · refine gq_aload_n (pc := 10) dX11_dreads_10 rfl ?_
    refine gq_iconst (pc := 11) dX11_dreads_11 kc_1 ?_
    refine gq_rV1i (pc := 12) dX11_dreads_12 cv_X11_109 sh_0 (c_error kl_1 (by decide)) ⟨by decide, by decide⟩ rfl rfl (Nat.le_of_ble_eq_true rfl) ?_
    exact gq_iret (pc := 15) rfl dX11_dreads_15 ⟨rfl, rfl⟩
theorem p_xf_17 (w : Nat) : p_xf x r w 17 = p_br r w (x 17) := by
  unfold p_xf p_xt p_br
  by_cases h : p_heeded r w < 0
  · rw [if_pos h, if_pos h]
  · rw [if_neg h, if_neg h]
    split
    · split <;> simp [upd]
    · simp [upd]
theorem p_br_add (w : Nat) (a b : Int32) : p_br r w (a + b) = a + p_br r w b := by
  unfold p_br
  split
  · rfl
  · rw [Int32.add_assoc]
theorem p_xs_17 : ∀ w, p_xs x r w 17 = x 17 + p_brs r w := by
  intro w
  induction w with
  | zero => show x 17 = x 17 + 0; rw [Int32.add_zero]
  | succ w ih =>
    show p_xf (p_xs x r w) (p_ones r w) w 17 = x 17 + p_br (p_ones r w) w (p_brs r w)
    rw [p_xf_17, ih, p_br_add]
/-- what was borne in n hours -/
def p_bn (r : Nat → Int32) : Nat → Int32
  | 0 => 0
  | n + 1 => p_bn r n + p_Bo (p_hrs r n)
theorem p_xh_17 {V : Nat} : ∀ N, p_ok g (c + N) V r → p_xh x r V N 17 = x 17 + p_bn r N := by
  intro N
  induction N generalizing c with
  | zero => intro _; show x 17 = x 17 + 0; rw [Int32.add_zero]
  | succ N ih =>
    intro h
    have hN := ih (c := c + 1) (by rw [show c + 1 + N = c + (N + 1) by omega]; exact h)
    have hk := p_ok_hrs (g := g) (c := c + 1) (r := r) (V := V) N (by rw [show c + 1 + N = c + (N + 1) by omega]; exact h)
    show p_xs (p_xh x r V N) (p_hrs r N) V 17 = x 17 + (p_bn r N + p_Bo (p_hrs r N))
    rw [p_xs_17, hN, Int32.add_assoc]
    unfold p_Bo
    rw [hk.2.1, p_n_nI (by have := hk.2.2.1; omega)]
end F4
