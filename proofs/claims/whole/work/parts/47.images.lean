section F5
variable {X : ge_X} {g : ge_G} {r x hb r2 x2 hb2 : Nat → Int32} {c : Nat}
theorem ge_k_comm45 : ge_k (ge_k g 25 r x hb) 45 r2 x2 hb2 = ge_k (ge_k g 45 r2 x2 hb2) 25 r x hb := by
  funext q
  rcases (by omega : q < 25 ∨ (25 ≤ q ∧ q ≤ 34) ∨ (34 < q ∧ q < 45) ∨ (45 ≤ q ∧ q ≤ 54) ∨ 54 < q) with h | h | h | h | h
  · rw [ge_k_o _ 45 _ _ _ (Or.inl (by omega)), ge_k_o _ 25 _ _ _ (Or.inl h), ge_k_o _ 25 _ _ _ (Or.inl h), ge_k_o _ 45 _ _ _ (Or.inl (by omega))]
  · rw [ge_k_o _ 45 _ _ _ (Or.inl (by omega))]
    exact ge_k_at h.1 h.2 _
  · rw [ge_k_o _ 45 _ _ _ (Or.inl (by omega)), ge_k_o _ 25 _ _ _ (Or.inr (by omega)), ge_k_o _ 25 _ _ _ (Or.inr (by omega)), ge_k_o _ 45 _ _ _ (Or.inl (by omega))]
  · rw [ge_k_o _ 25 _ _ _ (Or.inr (by omega))]
    exact ge_k_at h.1 h.2 _
  · rw [ge_k_o _ 45 _ _ _ (Or.inr (by omega)), ge_k_o _ 25 _ _ _ (Or.inr (by omega)), ge_k_o _ 25 _ _ _ (Or.inr (by omega)), ge_k_o _ 45 _ _ _ (Or.inr (by omega))]
theorem ge_k_k : ge_k (ge_k g 25 r x hb) 25 r2 x2 hb2 = ge_k g 25 r2 x2 hb2 := by
  funext q
  by_cases h : q < 25 ∨ 34 < q
  · rw [ge_k_o _ 25 _ _ _ (by omega), ge_k_o _ 25 _ _ _ (by omega), ge_k_o _ 25 _ _ _ (by omega)]
  · exact ge_k_at (by omega) (by omega) _
/-- a row of the class becomes another: its size, its numbers -/
def ge_rc (g : ge_G) (p q n : Nat) : ge_G := ge_row (ge_up g p 1 (nI n)) (p + 1) (va_cpy (g (q + 1)) (g (p + 1)) 0 0 n)
set_option maxHeartbeats 400000 in
theorem c_lcopy_18 {n m : Nat} (hn : g 13 1 = nI n) (h : n ≤ 50) (hm : g 15 1 = nI m) (h2 : m ≤ 50) : ge_N X ge_SH YX4_copyFrom 2 [.ref (ge_ad X.1 18), .ref (ge_ad X.1 11)] (ge_k g 25 r x hb) none (ge_k (ge_rc (ge_rc g 20 13 n) 22 15 m) 25 r x hb) := by
  refine gq_ofB (l := [(0, .ref (ge_ad X.1 18)), (1, .ref (ge_ad X.1 11))]) (by decide) (Nat.le_of_ble_eq_true rfl) rfl ?_
  refine gq_iconst (pc := 0) dX4_copyFrom_0 kc_0 ?_
  refine gq_istore_n (pc := 1) (l' := [(2, _), (0, _), (1, _)]) dX4_copyFrom_1 (by decide) rfl ?_
  refine gq_iload_n (pc := 2) dX4_copyFrom_2 rfl ?_
  refine gq_iconst (pc := 3) dX4_copyFrom_3 kc_2 ?_
  refine gq_ic_ge (pc := 4) 28 dX4_copyFrom_4 (by decide) (fun h_4 => ?_) (fun h_4 => ?_)
  · exact absurd h_4 (by decide)
  · refine gq_aload_n (pc := 7) dX4_copyFrom_7 rfl ?_
    refine gq_getr (pc := 8) dX4_copyFrom_8 fl_X4_11_4 sh_18 rfl ?_
    refine gq_iload_n (pc := 11) dX4_copyFrom_11 rfl ?_
    refine gq_aald (pc := 12) dX4_copyFrom_12 sh_19 rfl kl_0 rfl (by decide) ?_
    refine gq_aload_n (pc := 13) dX4_copyFrom_13 rfl ?_
    refine gq_getr (pc := 14) dX4_copyFrom_14 fl_X4_11_4 sh_11 rfl ?_
    refine gq_iload_n (pc := 17) dX4_copyFrom_17 rfl ?_
    refine gq_aald (pc := 18) dX4_copyFrom_18 sh_12 rfl kl_0 rfl (by decide) ?_
    refine gq_rV1v (pc := 19) dX4_copyFrom_19 cv_X4_27 sh_20 (r_copy_20_13 (n := n) (by exact hn) h) ⟨by decide, by decide⟩ rfl rfl (Nat.le_of_ble_eq_true rfl) ?_
    refine gq_iinc (pc := 22) (l' := [(2, _), (0, _), (1, _)]) dX4_copyFrom_22 rfl (by decide : (0 : Int32) + Int32.ofInt 1 = 1) (by decide) rfl ?_
    refine gq_goto (pc := 25) 2 dX4_copyFrom_25 (by decide) ?_
    refine gq_iload_n (pc := 2) dX4_copyFrom_2 rfl ?_
    refine gq_iconst (pc := 3) dX4_copyFrom_3 kc_2 ?_
    refine gq_ic_ge (pc := 4) 28 dX4_copyFrom_4 (by decide) (fun h_4 => ?_) (fun h_4 => ?_)
    · exact absurd h_4 (by decide)
    · refine gq_aload_n (pc := 7) dX4_copyFrom_7 rfl ?_
      refine gq_getr (pc := 8) dX4_copyFrom_8 fl_X4_11_4 sh_18 rfl ?_
      refine gq_iload_n (pc := 11) dX4_copyFrom_11 rfl ?_
      refine gq_aald (pc := 12) dX4_copyFrom_12 sh_19 rfl kl_1 rfl (by decide) ?_
      refine gq_aload_n (pc := 13) dX4_copyFrom_13 rfl ?_
      refine gq_getr (pc := 14) dX4_copyFrom_14 fl_X4_11_4 sh_11 rfl ?_
      refine gq_iload_n (pc := 17) dX4_copyFrom_17 rfl ?_
      refine gq_aald (pc := 18) dX4_copyFrom_18 sh_12 rfl kl_1 rfl (by decide) ?_
      refine gq_rV1v (pc := 19) dX4_copyFrom_19 cv_X4_27 sh_22 (r_copy_22_15 (n := m) (by exact hm) h2) ⟨by decide, by decide⟩ rfl rfl (Nat.le_of_ble_eq_true rfl) ?_
      refine gq_iinc (pc := 22) (l' := [(2, _), (0, _), (1, _)]) dX4_copyFrom_22 rfl (by decide : (1 : Int32) + Int32.ofInt 1 = 2) (by decide) rfl ?_
      refine gq_goto (pc := 25) 2 dX4_copyFrom_25 (by decide) ?_
      refine gq_iload_n (pc := 2) dX4_copyFrom_2 rfl ?_
      refine gq_iconst (pc := 3) dX4_copyFrom_3 kc_2 ?_
      refine gq_ic_ge (pc := 4) 28 dX4_copyFrom_4 (by decide) (fun h_4 => ?_) (fun h_4 => ?_)
      · exact gq_vret (pc := 28) rfl dX4_copyFrom_28 ⟨rfl, rfl⟩
      · exact absurd h_4 (by decide)
set_option maxHeartbeats 400000 in
theorem c_lcopy_11 {n m : Nat} (hn : g 20 1 = nI n) (h : n ≤ 50) (hm : g 22 1 = nI m) (h2 : m ≤ 50) : ge_N X ge_SH YX4_copyFrom 2 [.ref (ge_ad X.1 11), .ref (ge_ad X.1 18)] (ge_k g 25 r x hb) none (ge_k (ge_rc (ge_rc g 13 20 n) 15 22 m) 25 r x hb) := by
  refine gq_ofB (l := [(0, .ref (ge_ad X.1 11)), (1, .ref (ge_ad X.1 18))]) (by decide) (Nat.le_of_ble_eq_true rfl) rfl ?_
  refine gq_iconst (pc := 0) dX4_copyFrom_0 kc_0 ?_
  refine gq_istore_n (pc := 1) (l' := [(2, _), (0, _), (1, _)]) dX4_copyFrom_1 (by decide) rfl ?_
  refine gq_iload_n (pc := 2) dX4_copyFrom_2 rfl ?_
  refine gq_iconst (pc := 3) dX4_copyFrom_3 kc_2 ?_
  refine gq_ic_ge (pc := 4) 28 dX4_copyFrom_4 (by decide) (fun h_4 => ?_) (fun h_4 => ?_)
  · exact absurd h_4 (by decide)
  · refine gq_aload_n (pc := 7) dX4_copyFrom_7 rfl ?_
    refine gq_getr (pc := 8) dX4_copyFrom_8 fl_X4_11_4 sh_11 rfl ?_
    refine gq_iload_n (pc := 11) dX4_copyFrom_11 rfl ?_
    refine gq_aald (pc := 12) dX4_copyFrom_12 sh_12 rfl kl_0 rfl (by decide) ?_
    refine gq_aload_n (pc := 13) dX4_copyFrom_13 rfl ?_
    refine gq_getr (pc := 14) dX4_copyFrom_14 fl_X4_11_4 sh_18 rfl ?_
    refine gq_iload_n (pc := 17) dX4_copyFrom_17 rfl ?_
    refine gq_aald (pc := 18) dX4_copyFrom_18 sh_19 rfl kl_0 rfl (by decide) ?_
    refine gq_rV1v (pc := 19) dX4_copyFrom_19 cv_X4_27 sh_13 (r_copy_13_20 (n := n) (by exact hn) h) ⟨by decide, by decide⟩ rfl rfl (Nat.le_of_ble_eq_true rfl) ?_
    refine gq_iinc (pc := 22) (l' := [(2, _), (0, _), (1, _)]) dX4_copyFrom_22 rfl (by decide : (0 : Int32) + Int32.ofInt 1 = 1) (by decide) rfl ?_
    refine gq_goto (pc := 25) 2 dX4_copyFrom_25 (by decide) ?_
    refine gq_iload_n (pc := 2) dX4_copyFrom_2 rfl ?_
    refine gq_iconst (pc := 3) dX4_copyFrom_3 kc_2 ?_
    refine gq_ic_ge (pc := 4) 28 dX4_copyFrom_4 (by decide) (fun h_4 => ?_) (fun h_4 => ?_)
    · exact absurd h_4 (by decide)
    · refine gq_aload_n (pc := 7) dX4_copyFrom_7 rfl ?_
      refine gq_getr (pc := 8) dX4_copyFrom_8 fl_X4_11_4 sh_11 rfl ?_
      refine gq_iload_n (pc := 11) dX4_copyFrom_11 rfl ?_
      refine gq_aald (pc := 12) dX4_copyFrom_12 sh_12 rfl kl_1 rfl (by decide) ?_
      refine gq_aload_n (pc := 13) dX4_copyFrom_13 rfl ?_
      refine gq_getr (pc := 14) dX4_copyFrom_14 fl_X4_11_4 sh_18 rfl ?_
      refine gq_iload_n (pc := 17) dX4_copyFrom_17 rfl ?_
      refine gq_aald (pc := 18) dX4_copyFrom_18 sh_19 rfl kl_1 rfl (by decide) ?_
      refine gq_rV1v (pc := 19) dX4_copyFrom_19 cv_X4_27 sh_15 (r_copy_15_22 (n := m) (by exact hm) h2) ⟨by decide, by decide⟩ rfl rfl (Nat.le_of_ble_eq_true rfl) ?_
      refine gq_iinc (pc := 22) (l' := [(2, _), (0, _), (1, _)]) dX4_copyFrom_22 rfl (by decide : (1 : Int32) + Int32.ofInt 1 = 2) (by decide) rfl ?_
      refine gq_goto (pc := 25) 2 dX4_copyFrom_25 (by decide) ?_
      refine gq_iload_n (pc := 2) dX4_copyFrom_2 rfl ?_
      refine gq_iconst (pc := 3) dX4_copyFrom_3 kc_2 ?_
      refine gq_ic_ge (pc := 4) 28 dX4_copyFrom_4 (by decide) (fun h_4 => ?_) (fun h_4 => ?_)
      · exact gq_vret (pc := 28) rfl dX4_copyFrom_28 ⟨rfl, rfl⟩
      · exact absurd h_4 (by decide)
set_option maxHeartbeats 400000 in
theorem c_tell_ok {v : Int32} {n : Nat} (hn : g 62 1 = nI n) (h : n < 20) : ge_N X ge_SH YX11_tell 1 [.ref (ge_ad X.1 0), .int v] (ge_k g 25 r x hb) (some (.int (nI (n + 1)))) (ge_k (ge_up (ge_up g 63 n v) 62 1 (nI (n + 1))) 25 r x hb) := by
  refine gq_ofB (l := [(0, .ref (ge_ad X.1 0)), (1, .int v)]) (by decide) (Nat.le_of_ble_eq_true rfl) rfl ?_
  refine gq_aload_n (pc := 0) dX11_tell_0 rfl ?_
  refine gq_getr (pc := 1) dX11_tell_1 fl_X11_83_11 sh_0 rfl ?_
  refine kq_geto (pw := 25) (pc := 4) (by decide) dX11_tell_4 fl_X11_182_7 sh_62 rfl (by unfold ge_Z; omega) ?_
  refine gq_bipush (pc := 7) dX11_tell_7 kb_20 ?_
  refine gq_ic_lt (pc := 9) 18 dX11_tell_9 (by decide) (fun h_9 => ?_) (fun h_9 => ?_)
  · refine gq_aload_n (pc := 18) dX11_tell_18 rfl ?_
    refine gq_getr (pc := 19) dX11_tell_19 fl_X11_83_11 sh_0 rfl ?_
    refine gq_iload_n (pc := 22) dX11_tell_22 rfl ?_
    refine gq_rV1v (pc := 23) dX11_tell_23 cv_X11_185 sh_62 (r_add_62 hn h) ⟨by decide, by decide⟩ rfl rfl (Nat.le_of_ble_eq_true rfl) ?_
    refine gq_aload_n (pc := 26) dX11_tell_26 rfl ?_
    refine gq_getr (pc := 27) dX11_tell_27 fl_X11_83_11 sh_0 rfl ?_
    refine kq_geto (pw := 25) (pc := 30) (by decide) dX11_tell_30 fl_X11_182_7 sh_62 rfl (by unfold ge_Z; omega) ?_
    exact gq_iret (pc := 33) rfl dX11_tell_33 ⟨by rw [ge_up_self], rfl⟩
  · exact absurd (show g 62 1 < 20 by rw [hn]; exact (nI_ltI (b := 20) (by omega) (by omega)).mpr h) h_9
set_option maxHeartbeats 400000 in
theorem c_tell_er {v : Int32} (hn : g 62 1 = 20) : ge_N X ge_SH YX11_tell 1 [.ref (ge_ad X.1 0), .int v] (ge_k g 25 r x hb) (some (.int (-1000000000 - 4))) (ge_k (ge_up g 75 4 (g 75 4 + 1)) 25 r x hb) := by
  refine gq_ofB (l := [(0, .ref (ge_ad X.1 0)), (1, .int v)]) (by decide) (Nat.le_of_ble_eq_true rfl) rfl ?_
  refine gq_aload_n (pc := 0) dX11_tell_0 rfl ?_
  refine gq_getr (pc := 1) dX11_tell_1 fl_X11_83_11 sh_0 rfl ?_
  refine kq_geto (pw := 25) (pc := 4) (by decide) dX11_tell_4 fl_X11_182_7 sh_62 rfl (by unfold ge_Z; omega) ?_
  refine gq_bipush (pc := 7) dX11_tell_7 kb_20 ?_
  refine gq_ic_lt (pc := 9) 18 dX11_tell_9 (by decide) (fun h_9 => ?_) (fun h_9 => ?_)
  · exact absurd h_9 (by rw [hn]; decide)
  · refine gq_aload_n (pc := 12) dX11_tell_12 rfl ?_
    refine gq_iconst (pc := 13) dX11_tell_13 kc_4 ?_
    refine gq_rV1i (pc := 14) dX11_tell_14 cv_X11_109 sh_0 (c_error kl_4 (by decide)) ⟨by decide, by decide⟩ rfl rfl (Nat.le_of_ble_eq_true rfl) ?_
    exact gq_iret (pc := 17) rfl dX11_tell_17 ⟨rfl, rfl⟩
set_option maxHeartbeats 400000 in
theorem c_trace_ok {i : Int32} {a n : Nat} (ha : i = nI a) (h1 : a < n) (hn : n ≤ 40) (hf : g 1 1 = nI n) : ge_N X ge_SH YX11_trace 1 [.ref (ge_ad X.1 0), .int i] (ge_k g 25 r x hb) (some (.int (g 2 a))) (ge_k g 25 r x hb) := by
  refine gq_ofB (l := [(0, .ref (ge_ad X.1 0)), (1, .int i)]) (by decide) (Nat.le_of_ble_eq_true rfl) rfl ?_
  refine gq_aload_n (pc := 0) dX11_trace_0 rfl ?_
  refine gq_getr (pc := 1) dX11_trace_1 fl_X11_14_11 sh_0 rfl ?_
  refine gq_iload_n (pc := 4) dX11_trace_4 rfl ?_
  refine gq_iconst (pc := 5) dX11_trace_5 kc_1 ?_
  refine gq_rV2i (pc := 6) dX11_trace_6 cv_X11_293 sh_1 (r_holds_1 _ _) ⟨by decide, by decide⟩ rfl rfl (Nat.le_of_ble_eq_true rfl) ?_
  refine gq_if_ne (pc := 9) 18 dX11_trace_9 (by decide) (fun h_9 => ?_) (fun h_9 => ?_)
  · refine gq_aload_n (pc := 18) dX11_trace_18 rfl ?_
    refine gq_getr (pc := 19) dX11_trace_19 fl_X11_14_11 sh_0 rfl ?_
    refine gq_getr (pc := 22) dX11_trace_22 fl_X11_297_7 sh_1 rfl ?_
    refine gq_iload_n (pc := 25) dX11_trace_25 rfl ?_
    refine kq_aldo (pw := 25) (pc := 26) (by decide) dX11_trace_26 sh_2 (by decide) ha (by first | decide | omega) (by decide) ?_
    exact gq_iret (pc := 27) rfl dX11_trace_27 ⟨rfl, rfl⟩
  · exact absurd h_9 (by unfold p_hold; rw [hf, ha, if_neg (nI_pos (by omega)), if_neg (by decide), show nI n - 1 = nI (n - 1) from pk_sub (b := 1) (by omega), if_neg (nI_nlt (by omega) (by omega))]; decide)
set_option maxHeartbeats 400000 in
theorem c_trace_er {i : Int32} (h : p_hold (g 1 1) i 1 = 0) : ge_N X ge_SH YX11_trace 1 [.ref (ge_ad X.1 0), .int i] (ge_k g 25 r x hb) (some (.int (-1000000000 - 2))) (ge_k (ge_up g 75 2 (g 75 2 + 1)) 25 r x hb) := by
  refine gq_ofB (l := [(0, .ref (ge_ad X.1 0)), (1, .int i)]) (by decide) (Nat.le_of_ble_eq_true rfl) rfl ?_
  refine gq_aload_n (pc := 0) dX11_trace_0 rfl ?_
  refine gq_getr (pc := 1) dX11_trace_1 fl_X11_14_11 sh_0 rfl ?_
  refine gq_iload_n (pc := 4) dX11_trace_4 rfl ?_
  refine gq_iconst (pc := 5) dX11_trace_5 kc_1 ?_
  refine gq_rV2i (pc := 6) dX11_trace_6 cv_X11_293 sh_1 (r_holds_1 _ _) ⟨by decide, by decide⟩ rfl rfl (Nat.le_of_ble_eq_true rfl) ?_
  refine gq_if_ne (pc := 9) 18 dX11_trace_9 (by decide) (fun h_9 => ?_) (fun h_9 => ?_)
  · exact absurd h h_9
  · refine gq_aload_n (pc := 12) dX11_trace_12 rfl ?_
    refine gq_iconst (pc := 13) dX11_trace_13 kc_2 ?_
    refine gq_rV1i (pc := 14) dX11_trace_14 cv_X11_109 sh_0 (c_error kl_2 (by decide)) ⟨by decide, by decide⟩ rfl rfl (Nat.le_of_ble_eq_true rfl) ?_
    exact gq_iret (pc := 17) rfl dX11_trace_17 ⟨rfl, rfl⟩
set_option maxHeartbeats 400000 in
theorem c_image {n0 n1 n2 n3 : Nat} (q0 : n0 ≤ 50) (q1 : n1 ≤ 50) (q2 : n2 ≤ 50) (q3 : n3 ≤ 20) (s0 : g 13 1 = nI n0) (s1 : g 15 1 = nI n1) (s2 : g 58 1 = nI n2) (s3 : g 62 1 = nI n3) : ge_N X ge_SH YX11_image 3 [.ref (ge_ad X.1 0)] (ge_k g 25 r x hb) (some (.int (g 0 14 + 1))) (ge_k (ge_up (ge_rc (ge_rc (ge_rc (ge_rc (ge_k g 45 r (p_x0 (g 45)) (g 54)) 20 13 n0) 22 15 n1) 60 58 n2) 64 62 n3) 0 14 (g 0 14 + 1)) 25 r x hb) := by
  refine gq_ofB (l := [(0, .ref (ge_ad X.1 0))]) (by decide) (Nat.le_of_ble_eq_true rfl) rfl ?_
  refine gq_aload_n (pc := 0) dX11_image_0 rfl ?_
  refine gq_getr (pc := 1) dX11_image_1 fl_X11_67_11 sh_0 rfl ?_
  refine gq_aload_n (pc := 4) dX11_image_4 rfl ?_
  refine gq_getr (pc := 5) dX11_image_5 fl_X11_60_11 sh_0 rfl ?_
  refine gq_rV1v (pc := 8) dX11_image_8 cv_X11_223 sh_45 (k_copy_45_25 (ge_wr_k 25)) ⟨by decide, by decide⟩ rfl rfl (Nat.le_of_ble_eq_true rfl) ?_
  refine gq_tog (g := ge_k (ge_k g 45 r (p_x0 (g 45)) (g 54)) 25 r x hb) (by rw [← ge_k_comm45]; rfl) ?_
  refine gq_aload_n (pc := 11) dX11_image_11 rfl ?_
  refine gq_getr (pc := 12) dX11_image_12 fl_X11_52_11 sh_0 rfl ?_
  refine gq_aload_n (pc := 15) dX11_image_15 rfl ?_
  refine gq_getr (pc := 16) dX11_image_16 fl_X11_48_11 sh_0 rfl ?_
  refine gq_rV1v (pc := 19) dX11_image_19 cv_X11_317 sh_18 (c_lcopy_18 (g := ge_k g 45 r (p_x0 (g 45)) (g 54)) s0 q0 s1 q1) ⟨by decide, by decide⟩ rfl rfl (Nat.le_of_ble_eq_true rfl) ?_
  refine gq_aload_n (pc := 22) dX11_image_22 rfl ?_
  refine gq_getr (pc := 23) dX11_image_23 fl_X11_80_11 sh_0 rfl ?_
  refine gq_aload_n (pc := 26) dX11_image_26 rfl ?_
  refine gq_getr (pc := 27) dX11_image_27 fl_X11_77_11 sh_0 rfl ?_
  refine gq_rV1v (pc := 30) dX11_image_30 cv_X11_201 sh_60 (r_copy_60_58 (n := n2) s2 q2) ⟨by decide, by decide⟩ rfl rfl (Nat.le_of_ble_eq_true rfl) ?_
  refine gq_aload_n (pc := 33) dX11_image_33 rfl ?_
  refine gq_getr (pc := 34) dX11_image_34 fl_X11_86_11 sh_0 rfl ?_
  refine gq_aload_n (pc := 37) dX11_image_37 rfl ?_
  refine gq_getr (pc := 38) dX11_image_38 fl_X11_83_11 sh_0 rfl ?_
  refine gq_rV1v (pc := 41) dX11_image_41 cv_X11_201 sh_64 (r_copy_64_62 (n := n3) s3 q3) ⟨by decide, by decide⟩ rfl rfl (Nat.le_of_ble_eq_true rfl) ?_
  refine gq_aload_n (pc := 44) dX11_image_44 rfl ?_
  refine gq_dup (pc := 45) dX11_image_45 rfl ?_
  refine kq_geto (pw := 25) (pc := 46) (by decide) dX11_image_46 fl_X11_97_11 sh_0 rfl (by unfold ge_Z; omega) ?_
  refine gq_iconst (pc := 49) dX11_image_49 kc_1 ?_
  refine gq_iadd (pc := 50) dX11_image_50 ?_
  refine kq_puto (pw := 25) (pc := 51) (by decide) dX11_image_51 fp_X11_97_11 sh_0 rfl ?_
  refine gq_aload_n (pc := 54) dX11_image_54 rfl ?_
  refine kq_geto (pw := 25) (pc := 55) (by decide) dX11_image_55 fl_X11_97_11 sh_0 rfl (by unfold ge_Z; omega) ?_
  exact gq_iret (pc := 58) rfl dX11_image_58 ⟨by rw [ge_up_self]; rfl, rfl⟩
set_option maxHeartbeats 400000 in
theorem c_restore_ok {n0 n1 n2 n3 : Nat} (q0 : n0 ≤ 50) (q1 : n1 ≤ 50) (q2 : n2 ≤ 50) (q3 : n3 ≤ 20) (hi : ¬ g 0 14 = 0) (hw : ge_wr g 45 r2) (s0 : g 20 1 = nI n0) (s1 : g 22 1 = nI n1) (s2 : g 60 1 = nI n2) (s3 : g 64 1 = nI n3) : ge_N X ge_SH YX11_restore 3 [.ref (ge_ad X.1 0)] (ge_k g 25 r x hb) (some (.int (r2 0))) (ge_k (ge_rc (ge_rc (ge_rc (ge_rc g 13 20 n0) 15 22 n1) 58 60 n2) 62 64 n3) 25 r2 (p_x0 ((ge_k g 25 r x hb) 25)) hb) := by
  refine gq_ofB (l := [(0, .ref (ge_ad X.1 0))]) (by decide) (Nat.le_of_ble_eq_true rfl) rfl ?_
  refine gq_aload_n (pc := 0) dX11_restore_0 rfl ?_
  refine kq_geto (pw := 25) (pc := 1) (by decide) dX11_restore_1 fl_X11_97_11 sh_0 rfl (by unfold ge_Z; omega) ?_
  refine gq_if_ne (pc := 4) 13 dX11_restore_4 (by decide) (fun h_4 => ?_) (fun h_4 => ?_)
  · refine gq_aload_n (pc := 13) dX11_restore_13 rfl ?_
    refine gq_getr (pc := 14) dX11_restore_14 fl_X11_60_11 sh_0 rfl ?_
    refine gq_aload_n (pc := 17) dX11_restore_17 rfl ?_
    refine gq_getr (pc := 18) dX11_restore_18 fl_X11_67_11 sh_0 rfl ?_
    refine gq_rV1v (pc := 21) dX11_restore_21 cv_X11_223 sh_25 (k_copy_25_45 (show ge_wr (ge_k g 25 r x hb) 45 r2 from hw)) ⟨by decide, by decide⟩ rfl rfl (Nat.le_of_ble_eq_true rfl) ?_
    refine gq_tog (g := ge_k g 25 r2 (p_x0 ((ge_k g 25 r x hb) 25)) hb) (by rw [ge_k_k]; rfl) ?_
    refine gq_aload_n (pc := 24) dX11_restore_24 rfl ?_
    refine gq_getr (pc := 25) dX11_restore_25 fl_X11_48_11 sh_0 rfl ?_
    refine gq_aload_n (pc := 28) dX11_restore_28 rfl ?_
    refine gq_getr (pc := 29) dX11_restore_29 fl_X11_52_11 sh_0 rfl ?_
    refine gq_rV1v (pc := 32) dX11_restore_32 cv_X11_317 sh_11 (c_lcopy_11 s0 q0 s1 q1) ⟨by decide, by decide⟩ rfl rfl (Nat.le_of_ble_eq_true rfl) ?_
    refine gq_aload_n (pc := 35) dX11_restore_35 rfl ?_
    refine gq_getr (pc := 36) dX11_restore_36 fl_X11_77_11 sh_0 rfl ?_
    refine gq_aload_n (pc := 39) dX11_restore_39 rfl ?_
    refine gq_getr (pc := 40) dX11_restore_40 fl_X11_80_11 sh_0 rfl ?_
    refine gq_rV1v (pc := 43) dX11_restore_43 cv_X11_201 sh_58 (r_copy_58_60 (n := n2) s2 q2) ⟨by decide, by decide⟩ rfl rfl (Nat.le_of_ble_eq_true rfl) ?_
    refine gq_aload_n (pc := 46) dX11_restore_46 rfl ?_
    refine gq_getr (pc := 47) dX11_restore_47 fl_X11_83_11 sh_0 rfl ?_
    refine gq_aload_n (pc := 50) dX11_restore_50 rfl ?_
    refine gq_getr (pc := 51) dX11_restore_51 fl_X11_86_11 sh_0 rfl ?_
    refine gq_rV1v (pc := 54) dX11_restore_54 cv_X11_201 sh_62 (r_copy_62_64 (n := n3) s3 q3) ⟨by decide, by decide⟩ rfl rfl (Nat.le_of_ble_eq_true rfl) ?_
    refine gq_aload_n (pc := 57) dX11_restore_57 rfl ?_
    refine gq_getr (pc := 58) dX11_restore_58 fl_X11_60_11 sh_0 rfl ?_
    refine kq_get13 (pw := 25) (pc := 61) (by decide) dX11_restore_61 fl_X11_208_10 ?_
    exact gq_iret (pc := 64) rfl dX11_restore_64 ⟨rfl, rfl⟩
  · exact absurd h_4 hi
set_option maxHeartbeats 400000 in
theorem c_restore_er (hi : g 0 14 = 0) : ge_N X ge_SH YX11_restore 3 [.ref (ge_ad X.1 0)] (ge_k g 25 r x hb) (some (.int (-1000000000 - 2))) (ge_k (ge_up g 75 2 (g 75 2 + 1)) 25 r x hb) := by
  refine gq_ofB (l := [(0, .ref (ge_ad X.1 0))]) (by decide) (Nat.le_of_ble_eq_true rfl) rfl ?_
  refine gq_aload_n (pc := 0) dX11_restore_0 rfl ?_
  refine kq_geto (pw := 25) (pc := 1) (by decide) dX11_restore_1 fl_X11_97_11 sh_0 rfl (by unfold ge_Z; omega) ?_
  refine gq_if_ne (pc := 4) 13 dX11_restore_4 (by decide) (fun h_4 => ?_) (fun h_4 => ?_)
  · exact absurd hi h_4
  · refine gq_aload_n (pc := 7) dX11_restore_7 rfl ?_
    refine gq_iconst (pc := 8) dX11_restore_8 kc_2 ?_
    refine gq_rV1i (pc := 9) dX11_restore_9 cv_X11_109 sh_0 (c_error kl_2 (by decide)) ⟨by decide, by decide⟩ rfl rfl (Nat.le_of_ble_eq_true rfl) ?_
    exact gq_iret (pc := 12) rfl dX11_restore_12 ⟨rfl, rfl⟩
end F5
