section X2
variable {X : ge_X} {g : ge_G} {r x hb f : Nat → Int32} {N u : Nat}
theorem ge_k_in {g1 g2 : ge_G} {pw q : Nat} (h : pw ≤ q ∧ q ≤ pw + 9) : ge_k g1 pw r x hb q = ge_k g2 pw r x hb q := by
  unfold ge_k
  repeat' split
  all_goals first | rfl | (exfalso; omega)
theorem rl_k {a : Nat} {L : List Int32} : ge_rl (ge_k g 25 r x hb) a L = ge_k (ge_rl g a L) 25 r x hb := by
  funext q
  by_cases h : q < 25 ∨ 25 + 9 < q
  · rw [ge_k_o _ _ _ _ _ h]
    funext k
    unfold ge_rl
    rw [ge_k_o _ _ _ _ _ (by decide), ge_k_o _ _ _ _ _ (by decide), ge_k_o _ _ _ _ _ (by decide), ge_k_o _ _ _ _ _ h]
  · funext k
    show ge_rl (ge_k g 25 r x hb) a L q k = _
    unfold ge_rl
    rw [if_neg (by omega), if_neg (by omega), if_neg (by omega)]
    rw [ge_k_in (g1 := g) (g2 := fun q k => if q = 55 then (if k = 3 then nI a else g 55 k) else if q = 56 then (if k = 1 then nI L.length else g 56 k) else if q = 57 then (if k < L.length then L.getD k 0 else g 57 k) else g q k) (by omega)]
theorem r0_k : ge_r0 (ge_k g 25 r x hb) u = ge_k (ge_r0 g u) 25 r x hb := by
  have h1 : ge_up (ge_k g 25 r x hb) 55 1 1 = ge_k (ge_up g 55 1 1) 25 r x hb := by
    unfold ge_up
    rw [ge_k_uo (by decide), ge_k_o _ _ _ _ _ (by decide)]
  unfold ge_r0
  rw [h1]
  generalize ge_up g 55 1 1 = g2
  unfold ge_up
  rw [ge_k_uo (by decide), ge_k_o _ _ _ _ _ (by decide)]
set_option maxHeartbeats 400000 in
theorem r_copy_13_56 {n : Nat} (hn : g 56 1 = nI n) (h : n ≤ 50) : ge_N X ge_SH YX7_copyFrom 1 [.ref (ge_ad X.1 13), .ref (ge_ad X.1 56)] (ge_k g 25 r x hb) none (ge_k (ge_row (ge_up g 13 1 (nI n)) 14 (va_cpy (g 57) (g 14) 0 0 n)) 25 r x hb) := by
  refine gq_ofB (l := [(0, .ref (ge_ad X.1 13)), (1, .ref (ge_ad X.1 56))]) (by decide) (Nat.le_of_ble_eq_true rfl) rfl ?_
  refine gq_aload_n (pc := 0) dX7_copyFrom_0 rfl ?_
  refine gq_aload_n (pc := 1) dX7_copyFrom_1 rfl ?_
  refine kq_geto (pw := 25) (pc := 2) (by decide) dX7_copyFrom_2 fl_X7_13_7 sh_56 rfl (by unfold ge_Z; omega) ?_
  refine gq_aload_n (pc := 5) dX7_copyFrom_5 rfl ?_
  refine gq_getr (pc := 6) dX7_copyFrom_6 fl_X7_7_7 sh_13 rfl ?_
  refine gq_alen (pc := 9) (v := 50) dX7_copyFrom_9 sh_14 rfl ?_
  rw [hn]
  refine gq_rS2i (pc := 10) dX7_copyFrom_10 cs_X7_17 (k_min _ _) ⟨by decide, by decide⟩ (Nat.le_of_ble_eq_true rfl) ?_
  rw [show p_min (nI n) 50 = nI n from p_min_nI (b := 50) h (by decide)]
  refine kq_puto (pw := 25) (pc := 13) (by decide) dX7_copyFrom_13 fp_X7_13_7 sh_13 rfl ?_
  refine gq_aload_n (pc := 16) dX7_copyFrom_16 rfl ?_
  refine gq_getr (pc := 17) dX7_copyFrom_17 fl_X7_7_7 sh_56 rfl ?_
  refine gq_iconst (pc := 20) dX7_copyFrom_20 kc_0 ?_
  refine gq_aload_n (pc := 21) dX7_copyFrom_21 rfl ?_
  refine gq_getr (pc := 22) dX7_copyFrom_22 fl_X7_7_7 sh_13 rfl ?_
  refine gq_iconst (pc := 25) dX7_copyFrom_25 kc_0 ?_
  refine gq_aload_n (pc := 26) dX7_copyFrom_26 rfl ?_
  refine kq_geto (pw := 25) (pc := 27) (by decide) dX7_copyFrom_27 fl_X7_13_7 sh_13 rfl (by unfold ge_Z; omega) ?_
  rw [show ge_up g 13 1 (nI n) 13 1 = nI n from ge_up_self _ _ _ _]
  refine kq_copy (pw := 25) (pc := 30) (by decide) (by decide) dX7_copyFrom_30 cc_X7_23 sh_57 sh_14 kl_0 kl_0 rfl (by omega) (by omega) (by decide) (by decide) (by decide) (Nat.le_of_ble_eq_true rfl) ?_
  exact gq_vret (pc := 33) rfl dX7_copyFrom_33 ⟨rfl, rfl⟩
set_option maxHeartbeats 400000 in
theorem r_copy_15_56 {n : Nat} (hn : g 56 1 = nI n) (h : n ≤ 50) : ge_N X ge_SH YX7_copyFrom 1 [.ref (ge_ad X.1 15), .ref (ge_ad X.1 56)] (ge_k g 25 r x hb) none (ge_k (ge_row (ge_up g 15 1 (nI n)) 16 (va_cpy (g 57) (g 16) 0 0 n)) 25 r x hb) := by
  refine gq_ofB (l := [(0, .ref (ge_ad X.1 15)), (1, .ref (ge_ad X.1 56))]) (by decide) (Nat.le_of_ble_eq_true rfl) rfl ?_
  refine gq_aload_n (pc := 0) dX7_copyFrom_0 rfl ?_
  refine gq_aload_n (pc := 1) dX7_copyFrom_1 rfl ?_
  refine kq_geto (pw := 25) (pc := 2) (by decide) dX7_copyFrom_2 fl_X7_13_7 sh_56 rfl (by unfold ge_Z; omega) ?_
  refine gq_aload_n (pc := 5) dX7_copyFrom_5 rfl ?_
  refine gq_getr (pc := 6) dX7_copyFrom_6 fl_X7_7_7 sh_15 rfl ?_
  refine gq_alen (pc := 9) (v := 50) dX7_copyFrom_9 sh_16 rfl ?_
  rw [hn]
  refine gq_rS2i (pc := 10) dX7_copyFrom_10 cs_X7_17 (k_min _ _) ⟨by decide, by decide⟩ (Nat.le_of_ble_eq_true rfl) ?_
  rw [show p_min (nI n) 50 = nI n from p_min_nI (b := 50) h (by decide)]
  refine kq_puto (pw := 25) (pc := 13) (by decide) dX7_copyFrom_13 fp_X7_13_7 sh_15 rfl ?_
  refine gq_aload_n (pc := 16) dX7_copyFrom_16 rfl ?_
  refine gq_getr (pc := 17) dX7_copyFrom_17 fl_X7_7_7 sh_56 rfl ?_
  refine gq_iconst (pc := 20) dX7_copyFrom_20 kc_0 ?_
  refine gq_aload_n (pc := 21) dX7_copyFrom_21 rfl ?_
  refine gq_getr (pc := 22) dX7_copyFrom_22 fl_X7_7_7 sh_15 rfl ?_
  refine gq_iconst (pc := 25) dX7_copyFrom_25 kc_0 ?_
  refine gq_aload_n (pc := 26) dX7_copyFrom_26 rfl ?_
  refine kq_geto (pw := 25) (pc := 27) (by decide) dX7_copyFrom_27 fl_X7_13_7 sh_15 rfl (by unfold ge_Z; omega) ?_
  rw [show ge_up g 15 1 (nI n) 15 1 = nI n from ge_up_self _ _ _ _]
  refine kq_copy (pw := 25) (pc := 30) (by decide) (by decide) dX7_copyFrom_30 cc_X7_23 sh_57 sh_16 kl_0 kl_0 rfl (by omega) (by omega) (by decide) (by decide) (by decide) (Nat.le_of_ble_eq_true rfl) ?_
  exact gq_vret (pc := 33) rfl dX7_copyFrom_33 ⟨rfl, rfl⟩
/-- the class behind a read: the reader's cells, the tape taken -/
def ge_tx (g : ge_G) (u N : Nat) : ge_G := ge_up (ge_rl (ge_r0 g u) (q_all g u N).2.1 (q_all g u N).2.2) 58 1 0
def q_ok (g : ge_G) (u N : Nat) : Prop := (q_all g u N).1 = true ∧ (q_all g u N).2.1 = N
theorem q_fv_y (h : q_ok g u N) : q_fv (q_all g u N) N = -1 := by unfold q_fv; rw [if_pos h.1, if_pos h.2]
theorem q_fv_n (h : ¬ q_ok g u N) : q_fv (q_all g u N) N = nI (q_all g u N).2.1 := by
  unfold q_fv
  by_cases h1 : (q_all g u N).1 = true
  · rw [if_pos h1, if_neg (fun z => h ⟨h1, z⟩)]
  · rw [if_neg h1]
theorem q_all_k : q_all (ge_k g 25 r x hb) u N = q_all g u N := by
  unfold q_all t_r
  rw [ge_k_o _ _ _ _ _ (by decide)]
theorem q_all_len (hN2 : N ≤ 50) : (q_all g u N).2.2.length ≤ 50 := by
  have h3 := q_fit_who (g := g) (u := u) (N := N) 5 0 (Nat.zero_le _)
  unfold q_all
  omega
set_option maxHeartbeats 400000 in
theorem c_text_ok0 (hN : g 58 1 = nI N) (hN2 : N ≤ 50) (hq : q_ok g 0 N) : ge_N X ge_SH YX11_text 47 [.ref (ge_ad X.1 0), .int 0] (ge_k g 25 r x hb) (some (.int 1)) (ge_k (ge_row (ge_up (ge_tx g 0 N) 13 1 (nI (q_all g 0 N).2.2.length)) 14 (va_cpy (ge_tx g 0 N 57) (ge_tx g 0 N 14) 0 0 (q_all g 0 N).2.2.length)) 25 r x hb) := by
  have hfit := q_all_fit (g := g) (u := 0) hN2
  refine gq_ofB (l := [(0, .ref (ge_ad X.1 0)), (1, .int 0)]) (by decide) (Nat.le_of_ble_eq_true rfl) rfl ?_
  refine gq_iload_n (pc := 0) dX11_text_0 rfl ?_
  refine gq_rS1i (pc := 1) dX11_text_1 cs_X11_188 (c_noUse _) ⟨by decide, by decide⟩ (Nat.le_of_ble_eq_true rfl) ?_
  refine gq_if_eq (pc := 4) 13 dX11_text_4 (by decide) (fun h_4 => ?_) (fun h_4 => ?_)
  · refine gq_aload_n (pc := 13) dX11_text_13 rfl ?_
    refine gq_getr (pc := 14) dX11_text_14 fl_X11_73_11 sh_0 rfl ?_
    refine gq_aload_n (pc := 17) dX11_text_17 rfl ?_
    refine gq_getr (pc := 18) dX11_text_18 fl_X11_77_11 sh_0 rfl ?_
    refine gq_iload_n (pc := 21) dX11_text_21 rfl ?_
    refine gq_rV2i (pc := 22) dX11_text_22 cv_X11_191 sh_55 (by have hf := rd_fault (X := X) (g := (ge_k g 25 r x hb)) (u := 0) (N := N) hN (by decide) hN2; rw [q_all_k, r0_k, rl_k] at hf; exact hf) ⟨by decide, by decide⟩ rfl rfl (Nat.le_of_ble_eq_true rfl) ?_
    rw [q_fv_y hq]
    refine gq_istore_n (pc := 25) (l' := [(2, _), (0, _), (1, _)]) dX11_text_25 (by decide) rfl ?_
    refine gq_aload_n (pc := 26) dX11_text_26 rfl ?_
    refine gq_getr (pc := 27) dX11_text_27 fl_X11_77_11 sh_0 rfl ?_
    refine gq_iconst (pc := 30) dX11_text_30 kc_0 ?_
    refine kq_puto (pw := 25) (pc := 31) (by decide) dX11_text_31 fp_X11_182_7 sh_58 rfl ?_
    refine gq_tog (g := ge_k (ge_tx g 0 N) 25 r x hb) rfl ?_
    refine gq_iload_n (pc := 34) dX11_text_34 rfl ?_
    refine gq_if_lt (pc := 35) 43 dX11_text_35 (by decide) (fun h_35 => ?_) (fun h_35 => ?_)
    · refine gq_aload_n (pc := 43) dX11_text_43 rfl ?_
      refine gq_getr (pc := 44) dX11_text_44 fl_X11_48_11 sh_0 rfl ?_
      refine gq_getr (pc := 47) dX11_text_47 fl_X11_195_4 sh_11 rfl ?_
      refine gq_iload_n (pc := 50) dX11_text_50 rfl ?_
      refine gq_aald (pc := 51) dX11_text_51 sh_12 rfl kl_0 rfl (by decide) ?_
      refine gq_aload_n (pc := 52) dX11_text_52 rfl ?_
      refine gq_getr (pc := 53) dX11_text_53 fl_X11_73_11 sh_0 rfl ?_
      refine gq_getr (pc := 56) dX11_text_56 fl_X11_198_9 sh_55 rfl ?_
      refine gq_rV1v (pc := 59) dX11_text_59 cv_X11_201 sh_13 (r_copy_13_56 (n := (q_all g 0 N).2.2.length) rfl (q_all_len hN2)) ⟨by decide, by decide⟩ rfl rfl (Nat.le_of_ble_eq_true rfl) ?_
      refine gq_iconst (pc := 62) dX11_text_62 kc_1 ?_
      exact gq_iret (pc := 63) rfl dX11_text_63 ⟨rfl, rfl⟩
    · exact absurd (by decide) h_35
  · exact absurd (show p_nt (p_in 0 0 1) = 0 by decide) h_4
set_option maxHeartbeats 400000 in
theorem c_text_no0 (hN : g 58 1 = nI N) (hN2 : N ≤ 50) (hq : ¬ q_ok g 0 N) : ge_N X ge_SH YX11_text 47 [.ref (ge_ad X.1 0), .int 0] (ge_k g 25 r x hb) (some (.int (-10 - nI (q_all g 0 N).2.1))) (ge_k (ge_tx g 0 N) 25 r x hb) := by
  have hfit := q_all_fit (g := g) (u := 0) hN2
  refine gq_ofB (l := [(0, .ref (ge_ad X.1 0)), (1, .int 0)]) (by decide) (Nat.le_of_ble_eq_true rfl) rfl ?_
  refine gq_iload_n (pc := 0) dX11_text_0 rfl ?_
  refine gq_rS1i (pc := 1) dX11_text_1 cs_X11_188 (c_noUse _) ⟨by decide, by decide⟩ (Nat.le_of_ble_eq_true rfl) ?_
  refine gq_if_eq (pc := 4) 13 dX11_text_4 (by decide) (fun h_4 => ?_) (fun h_4 => ?_)
  · refine gq_aload_n (pc := 13) dX11_text_13 rfl ?_
    refine gq_getr (pc := 14) dX11_text_14 fl_X11_73_11 sh_0 rfl ?_
    refine gq_aload_n (pc := 17) dX11_text_17 rfl ?_
    refine gq_getr (pc := 18) dX11_text_18 fl_X11_77_11 sh_0 rfl ?_
    refine gq_iload_n (pc := 21) dX11_text_21 rfl ?_
    refine gq_rV2i (pc := 22) dX11_text_22 cv_X11_191 sh_55 (by have hf := rd_fault (X := X) (g := (ge_k g 25 r x hb)) (u := 0) (N := N) hN (by decide) hN2; rw [q_all_k, r0_k, rl_k] at hf; exact hf) ⟨by decide, by decide⟩ rfl rfl (Nat.le_of_ble_eq_true rfl) ?_
    rw [q_fv_n hq]
    refine gq_istore_n (pc := 25) (l' := [(2, _), (0, _), (1, _)]) dX11_text_25 (by decide) rfl ?_
    refine gq_aload_n (pc := 26) dX11_text_26 rfl ?_
    refine gq_getr (pc := 27) dX11_text_27 fl_X11_77_11 sh_0 rfl ?_
    refine gq_iconst (pc := 30) dX11_text_30 kc_0 ?_
    refine kq_puto (pw := 25) (pc := 31) (by decide) dX11_text_31 fp_X11_182_7 sh_58 rfl ?_
    refine gq_tog (g := ge_k (ge_tx g 0 N) 25 r x hb) rfl ?_
    refine gq_iload_n (pc := 34) dX11_text_34 rfl ?_
    refine gq_if_lt (pc := 35) 43 dX11_text_35 (by decide) (fun h_35 => ?_) (fun h_35 => ?_)
    · exact absurd h_35 (nI_pos (by omega))
    · refine gq_bipush (pc := 38) dX11_text_38 kb_m10 ?_
      refine gq_iload_n (pc := 40) dX11_text_40 rfl ?_
      refine gq_isub (pc := 41) dX11_text_41 ?_
      exact gq_iret (pc := 42) rfl dX11_text_42 ⟨rfl, rfl⟩
  · exact absurd (show p_nt (p_in 0 0 1) = 0 by decide) h_4
set_option maxHeartbeats 400000 in
theorem c_text_ok1 (hN : g 58 1 = nI N) (hN2 : N ≤ 50) (hq : q_ok g 1 N) : ge_N X ge_SH YX11_text 47 [.ref (ge_ad X.1 0), .int 1] (ge_k g 25 r x hb) (some (.int 1)) (ge_k (ge_row (ge_up (ge_tx g 1 N) 15 1 (nI (q_all g 1 N).2.2.length)) 16 (va_cpy (ge_tx g 1 N 57) (ge_tx g 1 N 16) 0 0 (q_all g 1 N).2.2.length)) 25 r x hb) := by
  have hfit := q_all_fit (g := g) (u := 1) hN2
  refine gq_ofB (l := [(0, .ref (ge_ad X.1 0)), (1, .int 1)]) (by decide) (Nat.le_of_ble_eq_true rfl) rfl ?_
  refine gq_iload_n (pc := 0) dX11_text_0 rfl ?_
  refine gq_rS1i (pc := 1) dX11_text_1 cs_X11_188 (c_noUse _) ⟨by decide, by decide⟩ (Nat.le_of_ble_eq_true rfl) ?_
  refine gq_if_eq (pc := 4) 13 dX11_text_4 (by decide) (fun h_4 => ?_) (fun h_4 => ?_)
  · refine gq_aload_n (pc := 13) dX11_text_13 rfl ?_
    refine gq_getr (pc := 14) dX11_text_14 fl_X11_73_11 sh_0 rfl ?_
    refine gq_aload_n (pc := 17) dX11_text_17 rfl ?_
    refine gq_getr (pc := 18) dX11_text_18 fl_X11_77_11 sh_0 rfl ?_
    refine gq_iload_n (pc := 21) dX11_text_21 rfl ?_
    refine gq_rV2i (pc := 22) dX11_text_22 cv_X11_191 sh_55 (by have hf := rd_fault (X := X) (g := (ge_k g 25 r x hb)) (u := 1) (N := N) hN (by decide) hN2; rw [q_all_k, r0_k, rl_k] at hf; exact hf) ⟨by decide, by decide⟩ rfl rfl (Nat.le_of_ble_eq_true rfl) ?_
    rw [q_fv_y hq]
    refine gq_istore_n (pc := 25) (l' := [(2, _), (0, _), (1, _)]) dX11_text_25 (by decide) rfl ?_
    refine gq_aload_n (pc := 26) dX11_text_26 rfl ?_
    refine gq_getr (pc := 27) dX11_text_27 fl_X11_77_11 sh_0 rfl ?_
    refine gq_iconst (pc := 30) dX11_text_30 kc_0 ?_
    refine kq_puto (pw := 25) (pc := 31) (by decide) dX11_text_31 fp_X11_182_7 sh_58 rfl ?_
    refine gq_tog (g := ge_k (ge_tx g 1 N) 25 r x hb) rfl ?_
    refine gq_iload_n (pc := 34) dX11_text_34 rfl ?_
    refine gq_if_lt (pc := 35) 43 dX11_text_35 (by decide) (fun h_35 => ?_) (fun h_35 => ?_)
    · refine gq_aload_n (pc := 43) dX11_text_43 rfl ?_
      refine gq_getr (pc := 44) dX11_text_44 fl_X11_48_11 sh_0 rfl ?_
      refine gq_getr (pc := 47) dX11_text_47 fl_X11_195_4 sh_11 rfl ?_
      refine gq_iload_n (pc := 50) dX11_text_50 rfl ?_
      refine gq_aald (pc := 51) dX11_text_51 sh_12 rfl kl_1 rfl (by decide) ?_
      refine gq_aload_n (pc := 52) dX11_text_52 rfl ?_
      refine gq_getr (pc := 53) dX11_text_53 fl_X11_73_11 sh_0 rfl ?_
      refine gq_getr (pc := 56) dX11_text_56 fl_X11_198_9 sh_55 rfl ?_
      refine gq_rV1v (pc := 59) dX11_text_59 cv_X11_201 sh_15 (r_copy_15_56 (n := (q_all g 1 N).2.2.length) rfl (q_all_len hN2)) ⟨by decide, by decide⟩ rfl rfl (Nat.le_of_ble_eq_true rfl) ?_
      refine gq_iconst (pc := 62) dX11_text_62 kc_1 ?_
      exact gq_iret (pc := 63) rfl dX11_text_63 ⟨rfl, rfl⟩
    · exact absurd (by decide) h_35
  · exact absurd (show p_nt (p_in 1 0 1) = 0 by decide) h_4
set_option maxHeartbeats 400000 in
theorem c_text_no1 (hN : g 58 1 = nI N) (hN2 : N ≤ 50) (hq : ¬ q_ok g 1 N) : ge_N X ge_SH YX11_text 47 [.ref (ge_ad X.1 0), .int 1] (ge_k g 25 r x hb) (some (.int (-10 - nI (q_all g 1 N).2.1))) (ge_k (ge_tx g 1 N) 25 r x hb) := by
  have hfit := q_all_fit (g := g) (u := 1) hN2
  refine gq_ofB (l := [(0, .ref (ge_ad X.1 0)), (1, .int 1)]) (by decide) (Nat.le_of_ble_eq_true rfl) rfl ?_
  refine gq_iload_n (pc := 0) dX11_text_0 rfl ?_
  refine gq_rS1i (pc := 1) dX11_text_1 cs_X11_188 (c_noUse _) ⟨by decide, by decide⟩ (Nat.le_of_ble_eq_true rfl) ?_
  refine gq_if_eq (pc := 4) 13 dX11_text_4 (by decide) (fun h_4 => ?_) (fun h_4 => ?_)
  · refine gq_aload_n (pc := 13) dX11_text_13 rfl ?_
    refine gq_getr (pc := 14) dX11_text_14 fl_X11_73_11 sh_0 rfl ?_
    refine gq_aload_n (pc := 17) dX11_text_17 rfl ?_
    refine gq_getr (pc := 18) dX11_text_18 fl_X11_77_11 sh_0 rfl ?_
    refine gq_iload_n (pc := 21) dX11_text_21 rfl ?_
    refine gq_rV2i (pc := 22) dX11_text_22 cv_X11_191 sh_55 (by have hf := rd_fault (X := X) (g := (ge_k g 25 r x hb)) (u := 1) (N := N) hN (by decide) hN2; rw [q_all_k, r0_k, rl_k] at hf; exact hf) ⟨by decide, by decide⟩ rfl rfl (Nat.le_of_ble_eq_true rfl) ?_
    rw [q_fv_n hq]
    refine gq_istore_n (pc := 25) (l' := [(2, _), (0, _), (1, _)]) dX11_text_25 (by decide) rfl ?_
    refine gq_aload_n (pc := 26) dX11_text_26 rfl ?_
    refine gq_getr (pc := 27) dX11_text_27 fl_X11_77_11 sh_0 rfl ?_
    refine gq_iconst (pc := 30) dX11_text_30 kc_0 ?_
    refine kq_puto (pw := 25) (pc := 31) (by decide) dX11_text_31 fp_X11_182_7 sh_58 rfl ?_
    refine gq_tog (g := ge_k (ge_tx g 1 N) 25 r x hb) rfl ?_
    refine gq_iload_n (pc := 34) dX11_text_34 rfl ?_
    refine gq_if_lt (pc := 35) 43 dX11_text_35 (by decide) (fun h_35 => ?_) (fun h_35 => ?_)
    · exact absurd h_35 (nI_pos (by omega))
    · refine gq_bipush (pc := 38) dX11_text_38 kb_m10 ?_
      refine gq_iload_n (pc := 40) dX11_text_40 rfl ?_
      refine gq_isub (pc := 41) dX11_text_41 ?_
      exact gq_iret (pc := 42) rfl dX11_text_42 ⟨rfl, rfl⟩
  · exact absurd (show p_nt (p_in 1 0 1) = 0 by decide) h_4
set_option maxHeartbeats 400000 in
theorem c_text_er {v : Int32} (h : p_in v 0 1 = 0) : ge_N X ge_SH YX11_text 47 [.ref (ge_ad X.1 0), .int v] (ge_k g 25 r x hb) (some (.int (-1000000000 - 1))) (ge_k (ge_up g 75 1 (g 75 1 + 1)) 25 r x hb) := by
  refine gq_ofB (l := [(0, .ref (ge_ad X.1 0)), (1, .int v)]) (by decide) (Nat.le_of_ble_eq_true rfl) rfl ?_
  refine gq_iload_n (pc := 0) dX11_text_0 rfl ?_
  refine gq_rS1i (pc := 1) dX11_text_1 cs_X11_188 (c_noUse _) ⟨by decide, by decide⟩ (Nat.le_of_ble_eq_true rfl) ?_
  refine gq_if_eq (pc := 4) 13 dX11_text_4 (by decide) (fun h_4 => ?_) (fun h_4 => ?_)
  · exact absurd h (p_nt_0.mp h_4)
  · refine gq_aload_n (pc := 7) dX11_text_7 rfl ?_
    refine gq_iconst (pc := 8) dX11_text_8 kc_1 ?_
    refine gq_rV1i (pc := 9) dX11_text_9 cv_X11_109 sh_0 (c_error kl_1 (by decide)) ⟨by decide, by decide⟩ rfl rfl (Nat.le_of_ble_eq_true rfl) ?_
    exact gq_iret (pc := 12) rfl dX11_text_12 ⟨rfl, rfl⟩
end X2
