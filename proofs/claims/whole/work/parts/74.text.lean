section X1
variable {X : ge_X} {g : ge_G} {r x hb f : Nat → Int32} {N u : Nat}
/-- the reader is given a tape and a use -/
def ge_r0 (g : ge_G) (u : Nat) : ge_G := ge_up (ge_up g 55 1 1) 55 2 (nI u)
theorem rl_0 : ge_up (ge_up (ge_r0 g u) 55 3 0) 56 1 0 = ge_rl (ge_r0 g u) 0 [] := by
  funext q k
  by_cases h : q = 56
  · subst h
    by_cases hk : k = 1
    · subst hk; rfl
    · show upd (ge_r0 g u 56) 1 0 k = (if k = 1 then _ else ge_r0 g u 56 k)
      rw [pk_un hk, if_neg hk]
  · rw [ge_up_row _ _ _ h]
    by_cases h5 : q = 55
    · subst h5
      by_cases hk : k = 3
      · subst hk; rfl
      · show upd (ge_r0 g u 55) 3 0 k = (if k = 3 then _ else ge_r0 g u 55 k)
        rw [pk_un hk, if_neg hk]
    · rw [ge_up_row _ _ _ h5]
      unfold ge_rl
      rw [if_neg h5, if_neg h]
      by_cases h7 : q = 57
      · subst h7; rw [if_pos rfl, if_neg (Nat.not_lt_zero _)]
      · rw [if_neg h7]
theorem q_all_0 : q_all (ge_r0 g u) u N = q_all g u N := rfl
def q_fv (y : q_R) (N : Nat) : Int32 := if y.1 = true then (if y.2.1 = N then -1 else nI y.2.1) else nI y.2.1
theorem q_all_fit (hN2 : N ≤ 50) : (q_all g u N).2.1 ≤ N := (q_fit_who (g := g) (u := u) (N := N) 5 0 (Nat.zero_le _)).2.1
set_option maxHeartbeats 400000 in
theorem rd_fault {v : Int32} (hv : v = nI u) (hN : g 58 1 = nI N) (hu2 : u < 2) (hN2 : N ≤ 50) : ge_N X ge_SH YX9_faultOf 46 [.ref (ge_ad X.1 55), .ref (ge_ad X.1 58), .int v] g (some (.int (q_fv (q_all g u N) N))) (ge_rl (ge_r0 g u) (q_all g u N).2.1 (q_all g u N).2.2) := by
  have hfit := q_all_fit (g := g) (u := u) hN2
  subst hv
  have hw := rd_whole (X := X) (g := ge_r0 g u) (u := u) (N := N) (show ¬ (1 : Int32) = 0 by decide) rfl hN hu2 hN2
  rw [q_all_0] at hw
  refine gq_ofB (l := [(0, .ref (ge_ad X.1 55)), (1, .ref (ge_ad X.1 58)), (2, .int v)]) (by decide) (Nat.le_of_ble_eq_true rfl) rfl ?_
  refine gq_aload_n (pc := 0) dX9_faultOf_0 rfl ?_
  refine gq_aload_n (pc := 1) dX9_faultOf_1 rfl ?_
  refine gq_aload_n (pc := 5) dX9_faultOf_5 rfl ?_
  refine gq_iload_n (pc := 6) dX9_faultOf_6 rfl ?_
  refine gq_puti (pc := 7) dX9_faultOf_7 fp_X9_23_9 sh_55 rfl ?_
  refine gq_aload_n (pc := 10) dX9_faultOf_10 rfl ?_
  refine gq_iconst (pc := 11) dX9_faultOf_11 kc_0 ?_
  refine gq_puti (pc := 12) dX9_faultOf_12 fp_X9_27_9 sh_55 rfl ?_
  refine gq_aload_n (pc := 15) dX9_faultOf_15 rfl ?_
  refine gq_getr (pc := 16) dX9_faultOf_16 fl_X9_14_9 sh_55 rfl ?_
  refine gq_iconst (pc := 19) dX9_faultOf_19 kc_0 ?_
  refine gq_puti (pc := 20) dX9_faultOf_20 fp_X9_30_7 sh_56 rfl ?_
  refine gq_tog (g := ge_rl (ge_r0 g u) 0 []) rl_0.symm ?_
  refine gq_aload_n (pc := 23) dX9_faultOf_23 rfl ?_
  refine gq_iconst (pc := 24) dX9_faultOf_24 kc_0 ?_
  refine gq_rV1i (pc := 25) dX9_faultOf_25 cv_X9_33 sh_55 hw ⟨by decide, by decide⟩ rfl rfl (Nat.le_of_ble_eq_true rfl) ?_
  have ht : ¬ ge_r0 g u 55 1 = 0 := (show ¬ (1 : Int32) = 0 by decide)
  have hN : ge_r0 g u 58 1 = nI N := hN
  refine gq_if_eq (pc := 28) 49 dX9_faultOf_28 (by decide) (fun h_28 => ?_) (fun h_28 => ?_)
  · refine gq_aload_n (pc := 49) dX9_faultOf_49 rfl ?_
    refine rd_at (pc := 50) dX9_faultOf_50 fl_X9_27_9 ?_
    exact gq_iret (pc := 53) rfl dX9_faultOf_53 ⟨by unfold q_fv; first | (rw [if_pos (p_b_n.mp h_28), if_pos ((nI_eq (by omega) (by omega)).mp (by first | exact h_42 | exact Decidable.not_not.mp h_42))]; done) | (rw [if_pos (p_b_n.mp h_28), if_neg (fun z => h_42 (by rw [z]))]; done) | (rw [if_neg (by rw [p_b_0.mp h_28]; decide)]), rfl⟩
  · refine gq_aload_n (pc := 31) dX9_faultOf_31 rfl ?_
    refine rd_at (pc := 32) dX9_faultOf_32 fl_X9_27_9 ?_
    refine gq_aload_n (pc := 35) dX9_faultOf_35 rfl ?_
    refine rd_tape (pc := 36) ht dX9_faultOf_36 fl_X9_20_9 ?_
    refine rd_sz (pc := 39) hN dX9_faultOf_39 fl_X9_30_7 ?_
    refine gq_ic_ne (pc := 42) 49 dX9_faultOf_42 (by decide) (fun h_42 => ?_) (fun h_42 => ?_)
    · refine gq_aload_n (pc := 49) dX9_faultOf_49 rfl ?_
      refine rd_at (pc := 50) dX9_faultOf_50 fl_X9_27_9 ?_
      exact gq_iret (pc := 53) rfl dX9_faultOf_53 ⟨by unfold q_fv; first | (rw [if_pos (p_b_n.mp h_28), if_pos ((nI_eq (by omega) (by omega)).mp (by first | exact h_42 | exact Decidable.not_not.mp h_42))]; done) | (rw [if_pos (p_b_n.mp h_28), if_neg (fun z => h_42 (by rw [z]))]; done) | (rw [if_neg (by rw [p_b_0.mp h_28]; decide)]), rfl⟩
    · refine gq_iconst (pc := 45) dX9_faultOf_45 kc_m1 ?_
      refine gq_goto (pc := 46) 53 dX9_faultOf_46 (by decide) ?_
      exact gq_iret (pc := 53) rfl dX9_faultOf_53 ⟨by unfold q_fv; first | (rw [if_pos (p_b_n.mp h_28), if_pos ((nI_eq (by omega) (by omega)).mp (by first | exact h_42 | exact Decidable.not_not.mp h_42))]; done) | (rw [if_pos (p_b_n.mp h_28), if_neg (fun z => h_42 (by rw [z]))]; done) | (rw [if_neg (by rw [p_b_0.mp h_28]; decide)]), rfl⟩
theorem ge_k_in {g1 g2 : ge_G} {pw q : Nat} (h : pw ≤ q ∧ q ≤ pw + 9) : ge_k g1 pw r x hb q = ge_k g2 pw r x hb q := by
  unfold ge_k
  repeat' split
  all_goals first | rfl | (exfalso; omega)
theorem rl_k {a : Nat} {L : List Int32} : ge_rl (ge_k g 25 r x hb) a L = ge_k (ge_rl g a L) 25 r x hb := by
  funext q
  by_cases h : q < 25 ∨ 25 + 9 < q
  · rw [ge_k_o _ _ _ _ _ h]
    funext k
    unfold ge_rl
    rw [ge_k_o _ _ _ _ _ (by decide), ge_k_o _ _ _ _ _ (by decide), ge_k_o _ _ _ _ _ (by decide), ge_k_o _ _ _ _ _ h]
  · funext k
    show ge_rl (ge_k g 25 r x hb) a L q k = _
    unfold ge_rl
    rw [if_neg (by omega), if_neg (by omega), if_neg (by omega)]
    rw [ge_k_in (g1 := g) (g2 := fun q k => if q = 55 then (if k = 3 then nI a else g 55 k) else if q = 56 then (if k = 1 then nI L.length else g 56 k) else if q = 57 then (if k < L.length then L.getD k 0 else g 57 k) else g q k) (by omega)]
theorem r0_k : ge_r0 (ge_k g 25 r x hb) u = ge_k (ge_r0 g u) 25 r x hb := by
  unfold ge_r0
  rw [ge_k_uo (by decide), ge_k_uo (by decide)]
set_option maxHeartbeats 400000 in
theorem r_copy_13_56 {n : Nat} (hn : g 56 1 = nI n) (h : n ≤ 50) : ge_N X ge_SH YX7_copyFrom 1 [.ref (ge_ad X.1 13), .ref (ge_ad X.1 56)] (ge_k g 25 r x hb) none (ge_k (ge_row (ge_up g 13 1 (nI n)) 14 (va_cpy (g 57) (g 14) 0 0 n)) 25 r x hb) := by
  refine gq_ofB (l := [(0, .ref (ge_ad X.1 13)), (1, .ref (ge_ad X.1 56))]) (by decide) (Nat.le_of_ble_eq_true rfl) rfl ?_
  refine gq_aload_n (pc := 0) dX7_copyFrom_0 rfl ?_
  refine gq_aload_n (pc := 1) dX7_copyFrom_1 rfl ?_
  refine kq_geto (pw := 25) (pc := 2) (by decide) dX7_copyFrom_2 fl_X7_13_7 sh_56 rfl (by unfold ge_Z; omega) ?_
  refine gq_aload_n (pc := 5) dX7_copyFrom_5 rfl ?_
  refine gq_getr (pc := 6) dX7_copyFrom_6 fl_X7_7_7 sh_13 rfl ?_
  refine gq_alen (pc := 9) (v := 50) dX7_copyFrom_9 sh_14 rfl ?_
  rw [hn]
  refine gq_rS2i (pc := 10) dX7_copyFrom_10 cs_X7_17 (k_min _ _) ⟨by decide, by decide⟩ (Nat.le_of_ble_eq_true rfl) ?_
  rw [show p_min (nI n) 50 = nI n from p_min_nI (b := 50) h (by decide)]
  refine kq_puto (pw := 25) (pc := 13) (by decide) dX7_copyFrom_13 fp_X7_13_7 sh_13 rfl ?_
  refine gq_aload_n (pc := 16) dX7_copyFrom_16 rfl ?_
  refine gq_getr (pc := 17) dX7_copyFrom_17 fl_X7_7_7 sh_56 rfl ?_
  refine gq_iconst (pc := 20) dX7_copyFrom_20 kc_0 ?_
  refine gq_aload_n (pc := 21) dX7_copyFrom_21 rfl ?_
  refine gq_getr (pc := 22) dX7_copyFrom_22 fl_X7_7_7 sh_13 rfl ?_
  refine gq_iconst (pc := 25) dX7_copyFrom_25 kc_0 ?_
  refine gq_aload_n (pc := 26) dX7_copyFrom_26 rfl ?_
  refine kq_geto (pw := 25) (pc := 27) (by decide) dX7_copyFrom_27 fl_X7_13_7 sh_13 rfl (by unfold ge_Z; omega) ?_
  rw [show ge_up g 13 1 (nI n) 13 1 = nI n from ge_up_self _ _ _ _]
  refine kq_copy (pw := 25) (pc := 30) (by decide) (by decide) dX7_copyFrom_30 cc_X7_23 sh_57 sh_14 kl_0 kl_0 rfl (by omega) (by omega) (by decide) (by decide) (by decide) (Nat.le_of_ble_eq_true rfl) ?_
  exact gq_vret (pc := 33) rfl dX7_copyFrom_33 ⟨rfl, rfl⟩
set_option maxHeartbeats 400000 in
theorem r_copy_15_56 {n : Nat} (hn : g 56 1 = nI n) (h : n ≤ 50) : ge_N X ge_SH YX7_copyFrom 1 [.ref (ge_ad X.1 15), .ref (ge_ad X.1 56)] (ge_k g 25 r x hb) none (ge_k (ge_row (ge_up g 15 1 (nI n)) 16 (va_cpy (g 57) (g 16) 0 0 n)) 25 r x hb) := by
  refine gq_ofB (l := [(0, .ref (ge_ad X.1 15)), (1, .ref (ge_ad X.1 56))]) (by decide) (Nat.le_of_ble_eq_true rfl) rfl ?_
  refine gq_aload_n (pc := 0) dX7_copyFrom_0 rfl ?_
  refine gq_aload_n (pc := 1) dX7_copyFrom_1 rfl ?_
  refine kq_geto (pw := 25) (pc := 2) (by decide) dX7_copyFrom_2 fl_X7_13_7 sh_56 rfl (by unfold ge_Z; omega) ?_
  refine gq_aload_n (pc := 5) dX7_copyFrom_5 rfl ?_
  refine gq_getr (pc := 6) dX7_copyFrom_6 fl_X7_7_7 sh_15 rfl ?_
  refine gq_alen (pc := 9) (v := 50) dX7_copyFrom_9 sh_16 rfl ?_
  rw [hn]
  refine gq_rS2i (pc := 10) dX7_copyFrom_10 cs_X7_17 (k_min _ _) ⟨by decide, by decide⟩ (Nat.le_of_ble_eq_true rfl) ?_
  rw [show p_min (nI n) 50 = nI n from p_min_nI (b := 50) h (by decide)]
  refine kq_puto (pw := 25) (pc := 13) (by decide) dX7_copyFrom_13 fp_X7_13_7 sh_15 rfl ?_
  refine gq_aload_n (pc := 16) dX7_copyFrom_16 rfl ?_
  refine gq_getr (pc := 17) dX7_copyFrom_17 fl_X7_7_7 sh_56 rfl ?_
  refine gq_iconst (pc := 20) dX7_copyFrom_20 kc_0 ?_
  refine gq_aload_n (pc := 21) dX7_copyFrom_21 rfl ?_
  refine gq_getr (pc := 22) dX7_copyFrom_22 fl_X7_7_7 sh_15 rfl ?_
  refine gq_iconst (pc := 25) dX7_copyFrom_25 kc_0 ?_
  refine gq_aload_n (pc := 26) dX7_copyFrom_26 rfl ?_
  refine kq_geto (pw := 25) (pc := 27) (by decide) dX7_copyFrom_27 fl_X7_13_7 sh_15 rfl (by unfold ge_Z; omega) ?_
  rw [show ge_up g 15 1 (nI n) 15 1 = nI n from ge_up_self _ _ _ _]
  refine kq_copy (pw := 25) (pc := 30) (by decide) (by decide) dX7_copyFrom_30 cc_X7_23 sh_57 sh_16 kl_0 kl_0 rfl (by omega) (by omega) (by decide) (by decide) (by decide) (Nat.le_of_ble_eq_true rfl) ?_
  exact gq_vret (pc := 33) rfl dX7_copyFrom_33 ⟨rfl, rfl⟩
/-- the class behind a read: the reader's cells, the tape taken -/
def ge_tx (g : ge_G) (u N : Nat) : ge_G := ge_up (ge_rl (ge_r0 g u) (q_all g u N).2.1 (q_all g u N).2.2) 58 1 0
def q_ok (g : ge_G) (u N : Nat) : Prop := (q_all g u N).1 = true ∧ (q_all g u N).2.1 = N
theorem q_fv_y (h : q_ok g u N) : q_fv (q_all g u N) N = -1 := by unfold q_fv; rw [if_pos h.1, if_pos h.2]
theorem q_fv_n (h : ¬ q_ok g u N) : q_fv (q_all g u N) N = nI (q_all g u N).2.1 := by
  unfold q_fv
  by_cases h1 : (q_all g u N).1 = true
  · rw [if_pos h1, if_neg (fun z => h ⟨h1, z⟩)]
  · rw [if_neg h1]
theorem q_all_k : q_all (ge_k g 25 r x hb) u N = q_all g u N := by
  unfold q_all t_r
  rw [ge_k_o _ _ _ _ _ (by decide)]
theorem q_all_len (hN2 : N ≤ 50) : (q_all g u N).2.2.length ≤ 50 := by
  have := q_fit_who (g := g) (u := u) (N := N) 5 0 (Nat.zero_le _)
  have h2 : (q_all g u N).2.2.length + 0 ≤ (q_all g u N).2.1 := this.2.2
  have h3 : (q_all g u N).2.1 ≤ N := this.2.1
  omega
set_option maxHeartbeats 400000 in
theorem c_text_ok0 (hN : g 58 1 = nI N) (hN2 : N ≤ 50) (hq : q_ok g 0 N) : ge_N X ge_SH YX11_text 47 [.ref (ge_ad X.1 0), .int 0] (ge_k g 25 r x hb) (some (.int 1)) (ge_k (ge_row (ge_up (ge_tx g 0 N) 13 1 (nI (q_all g 0 N).2.2.length)) 14 (va_cpy (ge_tx g 0 N 57) (ge_tx g 0 N 14) 0 0 (q_all g 0 N).2.2.length)) 25 r x hb) := by
  have hfit := q_all_fit (g := g) (u := 0) hN2
  refine gq_ofB (l := [(0, .ref (ge_ad X.1 0)), (1, .int 0)]) (by decide) (Nat.le_of_ble_eq_true rfl) rfl ?_
  refine gq_iload_n (pc := 0) dX11_text_0 rfl ?_
  refine gq_rS1i (pc := 1) dX11_text_1 cs_X11_188 (c_noUse _) ⟨by decide, by decide⟩ (Nat.le_of_ble_eq_true rfl) ?_
  refine gq_if_eq (pc := 4) 13 dX11_text_4 (by decide) (fun h_4 => ?_) (fun h_4 => ?_)
  · refine gq_aload_n (pc := 13) dX11_text_13 rfl ?_
    refine gq_getr (pc := 14) dX11_text_14 fl_X11_73_11 sh_0 rfl ?_
    refine gq_aload_n (pc := 17) dX11_text_17 rfl ?_
    refine gq_getr (pc := 18) dX11_text_18 fl_X11_77_11 sh_0 rfl ?_
    refine gq_iload_n (pc := 21) dX11_text_21 rfl ?_
    refine gq_rV2i (pc := 22) dX11_text_22 cv_X11_191 sh_55 (by have hf := rd_fault (X := X) (g := (ge_k g 25 r x hb)) (u := 0) (N := N) (v := 0) rfl hN (by decide) hN2; rw [q_all_k, r0_k, rl_k] at hf; exact hf) ⟨by decide, by decide⟩ rfl rfl (Nat.le_of_ble_eq_true rfl) ?_
    rw [q_fv_y hq]
    refine gq_istore_n (pc := 25) (l' := [(2, _), (0, _), (1, _)]) dX11_text_25 (by decide) rfl ?_
    refine gq_aload_n (pc := 26) dX11_text_26 rfl ?_
    refine gq_getr (pc := 27) dX11_text_27 fl_X11_77_11 sh_0 rfl ?_
    refine gq_iconst (pc := 30) dX11_text_30 kc_0 ?_
    refine kq_puto (pw := 25) (pc := 31) (by decide) dX11_text_31 fp_X11_182_7 sh_58 rfl ?_
    refine gq_tog (g := ge_k (ge_tx g 0 N) 25 r x hb) rfl ?_
    refine gq_iload_n (pc := 34) dX11_text_34 rfl ?_
    refine gq_if_lt (pc := 35) 43 dX11_text_35 (by decide) (fun h_35 => ?_) (fun h_35 => ?_)
    · refine gq_aload_n (pc := 43) dX11_text_43 rfl ?_
      refine gq_getr (pc := 44) dX11_text_44 fl_X11_48_11 sh_0 rfl ?_
      refine gq_getr (pc := 47) dX11_text_47 fl_X11_195_4 sh_11 rfl ?_
      refine gq_iload_n (pc := 50) dX11_text_50 rfl ?_
      refine gq_aald (pc := 51) dX11_text_51 sh_12 rfl kl_0 rfl (by decide) ?_
      refine gq_aload_n (pc := 52) dX11_text_52 rfl ?_
      refine gq_getr (pc := 53) dX11_text_53 fl_X11_73_11 sh_0 rfl ?_
      refine gq_getr (pc := 56) dX11_text_56 fl_X11_198_9 sh_55 rfl ?_
      refine gq_rV1v (pc := 59) dX11_text_59 cv_X11_201 sh_13 (r_copy_13_56 (n := (q_all g 0 N).2.2.length) rfl (q_all_len hN2)) ⟨by decide, by decide⟩ rfl rfl (Nat.le_of_ble_eq_true rfl) ?_
      refine gq_iconst (pc := 62) dX11_text_62 kc_1 ?_
      exact gq_iret (pc := 63) rfl dX11_text_63 ⟨rfl, rfl⟩
    · exact absurd (by decide) h_35
  · exact absurd (show p_nt (p_in 0 0 1) = 0 by decide) h_4
set_option maxHeartbeats 400000 in
theorem c_text_no0 (hN : g 58 1 = nI N) (hN2 : N ≤ 50) (hq : ¬ q_ok g 0 N) : ge_N X ge_SH YX11_text 47 [.ref (ge_ad X.1 0), .int 0] (ge_k g 25 r x hb) (some (.int (-10 - nI (q_all g 0 N).2.1))) (ge_k (ge_tx g 0 N) 25 r x hb) := by
  have hfit := q_all_fit (g := g) (u := 0) hN2
  refine gq_ofB (l := [(0, .ref (ge_ad X.1 0)), (1, .int 0)]) (by decide) (Nat.le_of_ble_eq_true rfl) rfl ?_
  refine gq_iload_n (pc := 0) dX11_text_0 rfl ?_
  refine gq_rS1i (pc := 1) dX11_text_1 cs_X11_188 (c_noUse _) ⟨by decide, by decide⟩ (Nat.le_of_ble_eq_true rfl) ?_
  refine gq_if_eq (pc := 4) 13 dX11_text_4 (by decide) (fun h_4 => ?_) (fun h_4 => ?_)
  · refine gq_aload_n (pc := 13) dX11_text_13 rfl ?_
    refine gq_getr (pc := 14) dX11_text_14 fl_X11_73_11 sh_0 rfl ?_
    refine gq_aload_n (pc := 17) dX11_text_17 rfl ?_
    refine gq_getr (pc := 18) dX11_text_18 fl_X11_77_11 sh_0 rfl ?_
    refine gq_iload_n (pc := 21) dX11_text_21 rfl ?_
    refine gq_rV2i (pc := 22) dX11_text_22 cv_X11_191 sh_55 (by have hf := rd_fault (X := X) (g := (ge_k g 25 r x hb)) (u := 0) (N := N) (v := 0) rfl hN (by decide) hN2; rw [q_all_k, r0_k, rl_k] at hf; exact hf) ⟨by decide, by decide⟩ rfl rfl (Nat.le_of_ble_eq_true rfl) ?_
    rw [q_fv_n hq]
    refine gq_istore_n (pc := 25) (l' := [(2, _), (0, _), (1, _)]) dX11_text_25 (by decide) rfl ?_
    refine gq_aload_n (pc := 26) dX11_text_26 rfl ?_
    refine gq_getr (pc := 27) dX11_text_27 fl_X11_77_11 sh_0 rfl ?_
    refine gq_iconst (pc := 30) dX11_text_30 kc_0 ?_
    refine kq_puto (pw := 25) (pc := 31) (by decide) dX11_text_31 fp_X11_182_7 sh_58 rfl ?_
    refine gq_tog (g := ge_k (ge_tx g 0 N) 25 r x hb) rfl ?_
    refine gq_iload_n (pc := 34) dX11_text_34 rfl ?_
    refine gq_if_lt (pc := 35) 43 dX11_text_35 (by decide) (fun h_35 => ?_) (fun h_35 => ?_)
    · exact absurd h_35 (nI_pos (by omega))
    · refine gq_bipush (pc := 38) dX11_text_38 kb_m10 ?_
      refine gq_iload_n (pc := 40) dX11_text_40 rfl ?_
      refine gq_isub (pc := 41) dX11_text_41 ?_
      exact gq_iret (pc := 42) rfl dX11_text_42 ⟨rfl, rfl⟩
  · exact absurd (show p_nt (p_in 0 0 1) = 0 by decide) h_4
set_option maxHeartbeats 400000 in
theorem c_text_ok1 (hN : g 58 1 = nI N) (hN2 : N ≤ 50) (hq : q_ok g 1 N) : ge_N X ge_SH YX11_text 47 [.ref (ge_ad X.1 0), .int 1] (ge_k g 25 r x hb) (some (.int 1)) (ge_k (ge_row (ge_up (ge_tx g 1 N) 15 1 (nI (q_all g 1 N).2.2.length)) 16 (va_cpy (ge_tx g 1 N 57) (ge_tx g 1 N 16) 0 0 (q_all g 1 N).2.2.length)) 25 r x hb) := by
  have hfit := q_all_fit (g := g) (u := 1) hN2
  refine gq_ofB (l := [(0, .ref (ge_ad X.1 0)), (1, .int 1)]) (by decide) (Nat.le_of_ble_eq_true rfl) rfl ?_
  refine gq_iload_n (pc := 0) dX11_text_0 rfl ?_
  refine gq_rS1i (pc := 1) dX11_text_1 cs_X11_188 (c_noUse _) ⟨by decide, by decide⟩ (Nat.le_of_ble_eq_true rfl) ?_
  refine gq_if_eq (pc := 4) 13 dX11_text_4 (by decide) (fun h_4 => ?_) (fun h_4 => ?_)
  · refine gq_aload_n (pc := 13) dX11_text_13 rfl ?_
    refine gq_getr (pc := 14) dX11_text_14 fl_X11_73_11 sh_0 rfl ?_
    refine gq_aload_n (pc := 17) dX11_text_17 rfl ?_
    refine gq_getr (pc := 18) dX11_text_18 fl_X11_77_11 sh_0 rfl ?_
    refine gq_iload_n (pc := 21) dX11_text_21 rfl ?_
    refine gq_rV2i (pc := 22) dX11_text_22 cv_X11_191 sh_55 (by have hf := rd_fault (X := X) (g := (ge_k g 25 r x hb)) (u := 1) (N := N) (v := 1) rfl hN (by decide) hN2; rw [q_all_k, r0_k, rl_k] at hf; exact hf) ⟨by decide, by decide⟩ rfl rfl (Nat.le_of_ble_eq_true rfl) ?_
    rw [q_fv_y hq]
    refine gq_istore_n (pc := 25) (l' := [(2, _), (0, _), (1, _)]) dX11_text_25 (by decide) rfl ?_
    refine gq_aload_n (pc := 26) dX11_text_26 rfl ?_
    refine gq_getr (pc := 27) dX11_text_27 fl_X11_77_11 sh_0 rfl ?_
    refine gq_iconst (pc := 30) dX11_text_30 kc_0 ?_
    refine kq_puto (pw := 25) (pc := 31) (by decide) dX11_text_31 fp_X11_182_7 sh_58 rfl ?_
    refine gq_tog (g := ge_k (ge_tx g 1 N) 25 r x hb) rfl ?_
    refine gq_iload_n (pc := 34) dX11_text_34 rfl ?_
    refine gq_if_lt (pc := 35) 43 dX11_text_35 (by decide) (fun h_35 => ?_) (fun h_35 => ?_)
    · refine gq_aload_n (pc := 43) dX11_text_43 rfl ?_
      refine gq_getr (pc := 44) dX11_text_44 fl_X11_48_11 sh_0 rfl ?_
      refine gq_getr (pc := 47) dX11_text_47 fl_X11_195_4 sh_11 rfl ?_
      refine gq_iload_n (pc := 50) dX11_text_50 rfl ?_
      refine gq_aald (pc := 51) dX11_text_51 sh_12 rfl kl_1 rfl (by decide) ?_
      refine gq_aload_n (pc := 52) dX11_text_52 rfl ?_
      refine gq_getr (pc := 53) dX11_text_53 fl_X11_73_11 sh_0 rfl ?_
      refine gq_getr (pc := 56) dX11_text_56 fl_X11_198_9 sh_55 rfl ?_
      refine gq_rV1v (pc := 59) dX11_text_59 cv_X11_201 sh_15 (r_copy_15_56 (n := (q_all g 1 N).2.2.length) rfl (q_all_len hN2)) ⟨by decide, by decide⟩ rfl rfl (Nat.le_of_ble_eq_true rfl) ?_
      refine gq_iconst (pc := 62) dX11_text_62 kc_1 ?_
      exact gq_iret (pc := 63) rfl dX11_text_63 ⟨rfl, rfl⟩
    · exact absurd (by decide) h_35
  · exact absurd (show p_nt (p_in 1 0 1) = 0 by decide) h_4
set_option maxHeartbeats 400000 in
theorem c_text_no1 (hN : g 58 1 = nI N) (hN2 : N ≤ 50) (hq : ¬ q_ok g 1 N) : ge_N X ge_SH YX11_text 47 [.ref (ge_ad X.1 0), .int 1] (ge_k g 25 r x hb) (some (.int (-10 - nI (q_all g 1 N).2.1))) (ge_k (ge_tx g 1 N) 25 r x hb) := by
  have hfit := q_all_fit (g := g) (u := 1) hN2
  refine gq_ofB (l := [(0, .ref (ge_ad X.1 0)), (1, .int 1)]) (by decide) (Nat.le_of_ble_eq_true rfl) rfl ?_
  refine gq_iload_n (pc := 0) dX11_text_0 rfl ?_
  refine gq_rS1i (pc := 1) dX11_text_1 cs_X11_188 (c_noUse _) ⟨by decide, by decide⟩ (Nat.le_of_ble_eq_true rfl) ?_
  refine gq_if_eq (pc := 4) 13 dX11_text_4 (by decide) (fun h_4 => ?_) (fun h_4 => ?_)
  · refine gq_aload_n (pc := 13) dX11_text_13 rfl ?_
    refine gq_getr (pc := 14) dX11_text_14 fl_X11_73_11 sh_0 rfl ?_
    refine gq_aload_n (pc := 17) dX11_text_17 rfl ?_
    refine gq_getr (pc := 18) dX11_text_18 fl_X11_77_11 sh_0 rfl ?_
    refine gq_iload_n (pc := 21) dX11_text_21 rfl ?_
    refine gq_rV2i (pc := 22) dX11_text_22 cv_X11_191 sh_55 (by have hf := rd_fault (X := X) (g := (ge_k g 25 r x hb)) (u := 1) (N := N) (v := 1) rfl hN (by decide) hN2; rw [q_all_k, r0_k, rl_k] at hf; exact hf) ⟨by decide, by decide⟩ rfl rfl (Nat.le_of_ble_eq_true rfl) ?_
    rw [q_fv_n hq]
    refine gq_istore_n (pc := 25) (l' := [(2, _), (0, _), (1, _)]) dX11_text_25 (by decide) rfl ?_
    refine gq_aload_n (pc := 26) dX11_text_26 rfl ?_
    refine gq_getr (pc := 27) dX11_text_27 fl_X11_77_11 sh_0 rfl ?_
    refine gq_iconst (pc := 30) dX11_text_30 kc_0 ?_
    refine kq_puto (pw := 25) (pc := 31) (by decide) dX11_text_31 fp_X11_182_7 sh_58 rfl ?_
    refine gq_tog (g := ge_k (ge_tx g 1 N) 25 r x hb) rfl ?_
    refine gq_iload_n (pc := 34) dX11_text_34 rfl ?_
    refine gq_if_lt (pc := 35) 43 dX11_text_35 (by decide) (fun h_35 => ?_) (fun h_35 => ?_)
    · exact absurd h_35 (nI_pos (by omega))
    · refine gq_bipush (pc := 38) dX11_text_38 kb_m10 ?_
      refine gq_iload_n (pc := 40) dX11_text_40 rfl ?_
      refine gq_isub (pc := 41) dX11_text_41 ?_
      exact gq_iret (pc := 42) rfl dX11_text_42 ⟨rfl, rfl⟩
  · exact absurd (show p_nt (p_in 1 0 1) = 0 by decide) h_4
set_option maxHeartbeats 400000 in
theorem c_text_er {v : Int32} (h : p_in v 0 1 = 0) : ge_N X ge_SH YX11_text 47 [.ref (ge_ad X.1 0), .int v] (ge_k g 25 r x hb) (some (.int (-1000000000 - 1))) (ge_k (ge_up g 75 1 (g 75 1 + 1)) 25 r x hb) := by
  refine gq_ofB (l := [(0, .ref (ge_ad X.1 0)), (1, .int v)]) (by decide) (Nat.le_of_ble_eq_true rfl) rfl ?_
  refine gq_iload_n (pc := 0) dX11_text_0 rfl ?_
  refine gq_rS1i (pc := 1) dX11_text_1 cs_X11_188 (c_noUse _) ⟨by decide, by decide⟩ (Nat.le_of_ble_eq_true rfl) ?_
  refine gq_if_eq (pc := 4) 13 dX11_text_4 (by decide) (fun h_4 => ?_) (fun h_4 => ?_)
  · exact absurd h (p_nt_0.mp h_4)
  · refine gq_aload_n (pc := 7) dX11_text_7 rfl ?_
    refine gq_iconst (pc := 8) dX11_text_8 kc_1 ?_
    refine gq_rV1i (pc := 9) dX11_text_9 cv_X11_109 sh_0 (c_error kl_1 (by decide)) ⟨by decide, by decide⟩ rfl rfl (Nat.le_of_ble_eq_true rfl) ?_
    exact gq_iret (pc := 12) rfl dX11_text_12 ⟨rfl, rfl⟩
set_option maxHeartbeats 400000 in
theorem m_text_er {v : Int32} (h : p_in v 0 1 = 0) : ge_N X ge_SH YX12_text 45 [.ref (ge_ad X.1 76), .int v] (ge_m g r f) (some (.int (-1000000001))) (ge_m (ge_up g 81 1 (g 81 1 + 1)) r f) := by
  refine gq_ofB (l := [(0, .ref (ge_ad X.1 76)), (1, .int v)]) (by decide) (Nat.le_of_ble_eq_true rfl) rfl ?_
  refine gq_iload_n (pc := 0) dX12_text_0 rfl ?_
  refine gq_iconst (pc := 1) dX12_text_1 kc_0 ?_
  refine gq_iconst (pc := 2) dX12_text_2 kc_1 ?_
  refine gq_rS3i (pc := 3) dX12_text_3 cs_X12_41 (k_in _ _ _) ⟨by decide, by decide⟩ (Nat.le_of_ble_eq_true rfl) ?_
  refine gq_if_ne (pc := 6) 16 dX12_text_6 (by decide) (fun h_6 => ?_) (fun h_6 => ?_)
  · exact absurd h h_6
  · refine gq_aload_n (pc := 9) dX12_text_9 rfl ?_
    refine gq_ldc (pc := 10) dX12_text_10 kn_X12_53 ?_
    refine gq_rV1i (pc := 12) dX12_text_12 cv_X12_54 sh_76 (k_errs (j := 1) (by decide) (by decide)) ⟨by decide, by decide⟩ rfl rfl (Nat.le_of_ble_eq_true rfl) ?_
    exact gq_iret (pc := 15) rfl dX12_text_15 ⟨rfl, rfl⟩
/-- the tape's first k bytes as a text -/
def p_txk (r : Nat → Int32) (u k : Nat) : Nat → Int32 := fun i => if 144 + 50 * u ≤ i ∧ i < 144 + 50 * u + k then r (74 + (i - (144 + 50 * u))) else r i
theorem p_txk_s {k : Nat} (hk : k < 50) : upd (p_txk r u k) (144 + 50 * u + k) (p_txk r u k (74 + k)) = p_txk r u (k + 1) := by
  have e1 : p_txk r u k (74 + k) = r (74 + k) := if_neg (by omega)
  rw [e1]
  funext i
  by_cases h : i = 144 + 50 * u + k
  · subst h
    rw [pk_us]
    unfold p_txk
    rw [if_pos (by omega), show 144 + 50 * u + k - (144 + 50 * u) = k by omega]
  · rw [pk_un h]
    unfold p_txk
    by_cases h2 : 144 + 50 * u ≤ i ∧ i < 144 + 50 * u + k
    · rw [if_pos h2, if_pos (by omega)]
    · rw [if_neg h2, if_neg (by omega)]
def p_txr (r : Nat → Int32) (u : Nat) : Nat → Int32 := upd (p_txk r u 50) (6 + u) (r 4)
theorem p_txr_4 (hu2 : u < 2) : p_txr r u 4 = r 4 := by
  unfold p_txr p_txk
  rw [pk_un (by omega), if_neg (by omega)]
theorem p_txr_6 : p_txr r u (6 + u) = r 4 := pk_us
set_option maxHeartbeats 1000000 in
theorem m_text_ok {v : Int32} (hv : v = nI u) (hu2 : u < 2) (h4 : r 4 = nI N) (hN2 : N ≤ 50) (hq : ((e_all (p_txr r u) u N 1 1 1).1 && decide ((e_all (p_txr r u) u N 1 1 1).2.1 = N)) = true) : ge_N X ge_SH YX12_text 45 [.ref (ge_ad X.1 76), .int v] (ge_m g r f) (some (.int 1)) (ge_m (ge_row g 80 r) (upd (p_txr r u) 4 0) f) := by
  refine gq_ofB (l := [(0, .ref (ge_ad X.1 76)), (1, .int v)]) (by decide) (Nat.le_of_ble_eq_true rfl) rfl ?_
  have fin : ∀ w : Int32, ge_B X ge_SH YX12_text 45 (fun v2 g2 => v2 = (some (.int 1)) ∧ g2 = (ge_m (ge_row g 80 r) (upd (p_txr r u) 4 0) f)) 114 [(4, .int (nI (e_all (p_txr r u) u N 1 1 1).2.1)), (3, .int 1), (2, .int w), (0, .ref (ge_ad X.1 76)), (1, .int v)] [] (ge_m (ge_row g 80 r) (p_txr r u) f) := by
    intro w
    refine gq_iload_n (pc := 114) dX12_text_114 rfl ?_
    refine gq_if_ne (pc := 115) 130 dX12_text_115 (by decide) (fun h_115 => ?_) (fun h_115 => ?_)
    · refine gq_aload_n (pc := 130) dX12_text_130 rfl ?_
      refine gq_getr (pc := 131) dX12_text_131 fl_X12_7_12 sh_76 rfl ?_
      refine gq_iconst (pc := 134) dX12_text_134 kc_4 ?_
      refine gq_iconst (pc := 135) dX12_text_135 kc_0 ?_
      refine qm_ast (pc := 136) dX12_text_136 kl_4 (by first | decide | omega) ?_
      refine gq_iload_n (pc := 137) dX12_text_137 rfl ?_
      refine gq_if_eq (pc := 138) 145 dX12_text_138 (by decide) (fun h_138 => ?_) (fun h_138 => ?_)
      · exact absurd h_138 (by decide)
      · refine gq_iconst (pc := 141) dX12_text_141 kc_1 ?_
        refine gq_goto (pc := 142) 150 dX12_text_142 (by decide) ?_
        exact gq_iret (pc := 150) rfl dX12_text_150 ⟨rfl, rfl⟩
    · exact absurd h_115 (by decide)
  have mid : ge_B X ge_SH YX12_text 45 (fun v2 g2 => v2 = (some (.int 1)) ∧ g2 = (ge_m (ge_row g 80 r) (upd (p_txr r u) 4 0) f)) 81 [(2, .int (nI 50)), (0, .ref (ge_ad X.1 76)), (1, .int v)] [] (ge_m (ge_row g 80 r) (p_txr r u) f) := by
    intro g1 hg
    have e7 : g1 77 = p_txr r u := by funext k; exact hg 77 k (by unfold ge_Z; omega)
    have e1 : g1 = ge_m g1 (p_txr r u) (g1 76) := by rw [← e7, ge_m_self]
    have hx := x_walks (X := X) (g := g1) (r := p_txr r u) (f := g1 76) (u := u) (n := N) (w := v) (A := 1) (B := 1) (C := 1) hv hu2 hN2 (by rw [p_txr_6]; exact h4)
    rw [e1]
    refine ge_aload_n (pc := 81) dX12_text_81 rfl ?_
    refine ge_iload_n (pc := 82) dX12_text_82 rfl ?_
    refine ge_iconst (pc := 83) dX12_text_83 kc_1 ?_
    refine ge_iconst (pc := 84) dX12_text_84 kc_1 ?_
    refine ge_iconst (pc := 85) dX12_text_85 kc_1 ?_
    refine ge_rV4i (pc := 86) dX12_text_86 cv_X12_157 sh_76 hx ⟨by decide, by decide⟩ rfl rfl (Nat.le_of_ble_eq_true rfl) ?_
    refine ge_istore_n (pc := 89) (l' := [(2, _), (0, _), (1, _)]) dX12_text_89 (by decide) rfl ?_
    refine ge_aload_n (pc := 90) dX12_text_90 rfl ?_
    refine gw_get (v := 1) (pc := 91) dX12_text_91 fl_X12_104_12 sh_76 rfl (show p_b ((e_all (p_txr r u) u N 1 1 1).1 && decide ((e_all (p_txr r u) u N 1 1 1).2.1 = N)) = 1 by rw [hq]; rfl) ?_
    refine ge_if_eq (pc := 94) 106 dX12_text_94 (by decide) (fun h_94 => ?_) (fun h_94 => ?_)
    · exact absurd h_94 (by decide)
    · refine ge_iload_n (pc := 97) dX12_text_97 rfl ?_
      refine ge_iload_n (pc := 98) dX12_text_98 rfl ?_
      refine ge_ic_ne (pc := 99) 106 dX12_text_99 (by decide) (fun h_99 => ?_) (fun h_99 => ?_)
      · exact absurd rfl h_99
      · refine ge_iconst (pc := 102) dX12_text_102 kc_1 ?_
        refine ge_goto (pc := 103) 107 dX12_text_103 (by decide) ?_
        refine ge_istore_n (pc := 107) (l' := [(3, _), (2, _), (0, _), (1, _)]) dX12_text_107 (by decide) rfl ?_
        refine ge_aload_n (pc := 108) dX12_text_108 rfl ?_
        refine gw_get (v := nI (e_all (p_txr r u) u N 1 1 1).2.1) (pc := 109) dX12_text_109 fl_X12_108_12 sh_76 rfl rfl ?_
        refine ge_istore (pc := 112) (l' := [(4, _), (3, _), (2, _), (0, _), (1, _)]) dX12_text_112 (by decide) rfl ?_
        refine ge_sub [0, 1, 2, 3, 4] rfl ?_
        refine fin (e_all (p_txr r u) u N 1 1 1).2.2 _ ?_
        intro q k hz
        by_cases h7 : q = 77
        · subst h7; rfl
        · by_cases h6 : q = 76
          · subst h6
            show (p_fw (p_f1 (g1 76) u N 1 1 1) (e_all (p_txr r u) u N 1 1 1).2.1 0 ((e_all (p_txr r u) u N 1 1 1).1 && decide ((e_all (p_txr r u) u N 1 1 1).2.1 = N))) k = f k
            rw [fw_out _ _ _ _ _ _ _ _ _ _ (fun z => hz (Or.inl ⟨rfl, z⟩))]
            exact hg 76 k hz
          · rw [ge_m_o _ _ _ h7 h6, ge_m_o _ _ _ h7 h6]
            have := hg q k hz
            rw [ge_m_o _ _ _ h7 h6] at this
            exact this
  have key : ∀ (m i : Nat), i + m = 50 → ge_B X ge_SH YX12_text 45 (fun v2 g2 => v2 = (some (.int 1)) ∧ g2 = (ge_m (ge_row g 80 r) (upd (p_txr r u) 4 0) f)) 30 [(2, .int (nI i)), (0, .ref (ge_ad X.1 76)), (1, .int v)] [] (ge_m (ge_row g 80 r) (p_txk r u i) f) := by
    intro m
    induction m with
    | zero =>
      intro i hi
      obtain rfl : i = 50 := hi
      refine gq_iload_n (pc := 30) dX12_text_30 rfl ?_
      refine gq_bipush (pc := 31) dX12_text_31 kb_50 ?_
      refine gq_ic_ge (pc := 33) 66 dX12_text_33 (by decide) (fun h_33 => ?_) (fun h_33 => ?_)
      · refine gq_aload_n (pc := 66) dX12_text_66 rfl ?_
        refine gq_getr (pc := 67) dX12_text_67 fl_X12_7_12 sh_76 rfl ?_
        refine gq_bipush (pc := 70) dX12_text_70 kb_6 ?_
        refine gq_iload_n (pc := 72) dX12_text_72 rfl ?_
        refine gq_iadd (pc := 73) dX12_text_73 ?_
        refine gq_aload_n (pc := 74) dX12_text_74 rfl ?_
        refine gq_getr (pc := 75) dX12_text_75 fl_X12_7_12 sh_76 rfl ?_
        refine gq_iconst (pc := 78) dX12_text_78 kc_4 ?_
        refine qm_ald (pc := 79) dX12_text_79 kl_4 (by first | decide | omega) ?_
        refine gq_tov (v := r 4) (show r 4 = p_txk r u 50 4 from (if_neg (by omega)).symm) ?_
        refine qm_ast (pc := 80) dX12_text_80 (ge_nadd kl_6 hv) (by omega) ?_
        refine gq_sub [0, 1, 2] rfl ?_
        exact mid
      · exact absurd (by decide) h_33
    | succ m ih =>
      intro i hi
      refine gq_iload_n (pc := 30) dX12_text_30 rfl ?_
      refine gq_bipush (pc := 31) dX12_text_31 kb_50 ?_
      refine gq_ic_ge (pc := 33) 66 dX12_text_33 (by decide) (fun h_33 => ?_) (fun h_33 => ?_)
      · exact absurd ((nI_leI (a := 50) (b := i) (by omega) (by omega)).mp h_33) (by omega)
      · refine gq_aload_n (pc := 36) dX12_text_36 rfl ?_
        refine gq_getr (pc := 37) dX12_text_37 fl_X12_7_12 sh_76 rfl ?_
        refine gq_sipush (pc := 40) dX12_text_40 kq_144 ?_
        refine gq_bipush (pc := 43) dX12_text_43 kb_50 ?_
        refine gq_iload_n (pc := 45) dX12_text_45 rfl ?_
        refine gq_imul (pc := 46) dX12_text_46 ?_
        refine gq_iadd (pc := 47) dX12_text_47 ?_
        refine gq_iload_n (pc := 48) dX12_text_48 rfl ?_
        refine gq_iadd (pc := 49) dX12_text_49 ?_
        refine gq_aload_n (pc := 50) dX12_text_50 rfl ?_
        refine gq_getr (pc := 51) dX12_text_51 fl_X12_7_12 sh_76 rfl ?_
        refine gq_bipush (pc := 54) dX12_text_54 kb_74 ?_
        refine gq_iload_n (pc := 56) dX12_text_56 rfl ?_
        refine gq_iadd (pc := 57) dX12_text_57 ?_
        refine qm_ald (pc := 58) dX12_text_58 (ge_nadd kl_74 rfl) (by omega) ?_
        refine qm_ast (pc := 59) dX12_text_59 (ge_nadd (ge_nadd kl_144 (ge_nmul kl_50 hv)) rfl) (by omega) ?_
        rw [p_txk_s (by omega)]
        refine gq_iinc (pc := 60) (l' := [(2, _), (0, _), (1, _)]) dX12_text_60 rfl (ge_inc1 i) (by decide) rfl ?_
        refine gq_goto (pc := 63) 30 dX12_text_63 (by decide) ?_
        refine gq_sub [0, 1, 2] rfl ?_
        exact ih (i + 1) (by omega)
  refine gq_iload_n (pc := 0) dX12_text_0 rfl ?_
  refine gq_iconst (pc := 1) dX12_text_1 kc_0 ?_
  refine gq_iconst (pc := 2) dX12_text_2 kc_1 ?_
  refine gq_rS3i (pc := 3) dX12_text_3 cs_X12_41 (k_in _ _ _) ⟨by decide, by decide⟩ (Nat.le_of_ble_eq_true rfl) ?_
  refine gq_if_ne (pc := 6) 16 dX12_text_6 (by decide) (fun h_6 => ?_) (fun h_6 => ?_)
  · refine gq_aload_n (pc := 16) dX12_text_16 rfl ?_
    refine gq_aload_n (pc := 17) dX12_text_17 rfl ?_
    refine gq_getr (pc := 18) dX12_text_18 fl_X12_7_12 sh_76 rfl ?_
    refine gq_aload_n (pc := 21) dX12_text_21 rfl ?_
    refine gq_getr (pc := 22) dX12_text_22 fl_X12_19_12 sh_76 rfl ?_
    refine gq_rV2v (pc := 25) dX12_text_25 cv_X12_170 sh_76 (k_move_to sh_80 (by decide) (by decide)) ⟨by decide, by decide⟩ rfl rfl (Nat.le_of_ble_eq_true rfl) ?_
    refine gq_iconst (pc := 28) dX12_text_28 kc_0 ?_
    refine gq_istore_n (pc := 29) (l' := [(2, _), (0, _), (1, _)]) dX12_text_29 (by decide) rfl ?_
    refine gq_sub [0, 1, 2] rfl ?_
    refine gq_tog (g := ge_m (ge_row g 80 r) (p_txk r u 0) f) (by rw [show p_txk r u 0 = r from by funext i; exact if_neg (by omega)]) ?_
    exact key 50 0 (by omega)
  · exact absurd h_6 (p_in_le (N := 1) hv (by omega) (by decide))
set_option maxHeartbeats 1000000 in
theorem m_text_no {v : Int32} (hv : v = nI u) (hu2 : u < 2) (h4 : r 4 = nI N) (hN2 : N ≤ 50) (hq : ((e_all (p_txr r u) u N 1 1 1).1 && decide ((e_all (p_txr r u) u N 1 1 1).2.1 = N)) = false) : ge_N X ge_SH YX12_text 45 [.ref (ge_ad X.1 76), .int v] (ge_m g r f) (some (.int (-10 - nI (e_all (p_txr r u) u N 1 1 1).2.1))) (ge_m (ge_row g 80 r) (upd r 4 0) f) := by
  refine gq_ofB (l := [(0, .ref (ge_ad X.1 76)), (1, .int v)]) (by decide) (Nat.le_of_ble_eq_true rfl) rfl ?_
  have fin : ∀ w : Int32, ge_B X ge_SH YX12_text 45 (fun v2 g2 => v2 = (some (.int (-10 - nI (e_all (p_txr r u) u N 1 1 1).2.1))) ∧ g2 = (ge_m (ge_row g 80 r) (upd r 4 0) f)) 114 [(4, .int (nI (e_all (p_txr r u) u N 1 1 1).2.1)), (3, .int 0), (2, .int w), (0, .ref (ge_ad X.1 76)), (1, .int v)] [] (ge_m (ge_row g 80 r) (p_txr r u) f) := by
    intro w
    refine gq_iload_n (pc := 114) dX12_text_114 rfl ?_
    refine gq_if_ne (pc := 115) 130 dX12_text_115 (by decide) (fun h_115 => ?_) (fun h_115 => ?_)
    · exact absurd h_115 (by decide)
    · refine gq_aload_n (pc := 118) dX12_text_118 rfl ?_
      refine gq_aload_n (pc := 119) dX12_text_119 rfl ?_
      refine gq_getr (pc := 120) dX12_text_120 fl_X12_19_12 sh_76 rfl ?_
      refine gq_aload_n (pc := 123) dX12_text_123 rfl ?_
      refine gq_getr (pc := 124) dX12_text_124 fl_X12_7_12 sh_76 rfl ?_
      refine gq_rV2v (pc := 127) dX12_text_127 cv_X12_170 sh_76 (k_move_back sh_80 (by decide) (by decide) (by decide)) ⟨by decide, by decide⟩ rfl rfl (Nat.le_of_ble_eq_true rfl) ?_
      refine gq_tog (g := ge_m (ge_row g 80 r) r f) (by rw [ge_row_self]) ?_
      refine gq_aload_n (pc := 130) dX12_text_130 rfl ?_
      refine gq_getr (pc := 131) dX12_text_131 fl_X12_7_12 sh_76 rfl ?_
      refine gq_iconst (pc := 134) dX12_text_134 kc_4 ?_
      refine gq_iconst (pc := 135) dX12_text_135 kc_0 ?_
      refine qm_ast (pc := 136) dX12_text_136 kl_4 (by first | decide | omega) ?_
      refine gq_iload_n (pc := 137) dX12_text_137 rfl ?_
      refine gq_if_eq (pc := 138) 145 dX12_text_138 (by decide) (fun h_138 => ?_) (fun h_138 => ?_)
      · refine gq_bipush (pc := 145) dX12_text_145 kb_m10 ?_
        refine gq_iload (pc := 147) dX12_text_147 rfl ?_
        refine gq_isub (pc := 149) dX12_text_149 ?_
        exact gq_iret (pc := 150) rfl dX12_text_150 ⟨rfl, rfl⟩
      · exact absurd h_138 (by decide)
  have mid : ge_B X ge_SH YX12_text 45 (fun v2 g2 => v2 = (some (.int (-10 - nI (e_all (p_txr r u) u N 1 1 1).2.1))) ∧ g2 = (ge_m (ge_row g 80 r) (upd r 4 0) f)) 81 [(2, .int (nI 50)), (0, .ref (ge_ad X.1 76)), (1, .int v)] [] (ge_m (ge_row g 80 r) (p_txr r u) f) := by
    intro g1 hg
    have e7 : g1 77 = p_txr r u := by funext k; exact hg 77 k (by unfold ge_Z; omega)
    have e1 : g1 = ge_m g1 (p_txr r u) (g1 76) := by rw [← e7, ge_m_self]
    have hx := x_walks (X := X) (g := g1) (r := p_txr r u) (f := g1 76) (u := u) (n := N) (w := v) (A := 1) (B := 1) (C := 1) hv hu2 hN2 (by rw [p_txr_6]; exact h4)
    rw [e1]
    refine ge_aload_n (pc := 81) dX12_text_81 rfl ?_
    refine ge_iload_n (pc := 82) dX12_text_82 rfl ?_
    refine ge_iconst (pc := 83) dX12_text_83 kc_1 ?_
    refine ge_iconst (pc := 84) dX12_text_84 kc_1 ?_
    refine ge_iconst (pc := 85) dX12_text_85 kc_1 ?_
    refine ge_rV4i (pc := 86) dX12_text_86 cv_X12_157 sh_76 hx ⟨by decide, by decide⟩ rfl rfl (Nat.le_of_ble_eq_true rfl) ?_
    refine ge_istore_n (pc := 89) (l' := [(2, _), (0, _), (1, _)]) dX12_text_89 (by decide) rfl ?_
    refine ge_aload_n (pc := 90) dX12_text_90 rfl ?_
    refine gw_get (v := 0) (pc := 91) dX12_text_91 fl_X12_104_12 sh_76 rfl (show p_b ((e_all (p_txr r u) u N 1 1 1).1 && decide ((e_all (p_txr r u) u N 1 1 1).2.1 = N)) = 0 by rw [hq]; rfl) ?_
    refine ge_if_eq (pc := 94) 106 dX12_text_94 (by decide) (fun h_94 => ?_) (fun h_94 => ?_)
    · refine ge_iconst (pc := 106) dX12_text_106 kc_0 ?_
      refine ge_istore_n (pc := 107) (l' := [(3, _), (2, _), (0, _), (1, _)]) dX12_text_107 (by decide) rfl ?_
      refine ge_aload_n (pc := 108) dX12_text_108 rfl ?_
      refine gw_get (v := nI (e_all (p_txr r u) u N 1 1 1).2.1) (pc := 109) dX12_text_109 fl_X12_108_12 sh_76 rfl rfl ?_
      refine ge_istore (pc := 112) (l' := [(4, _), (3, _), (2, _), (0, _), (1, _)]) dX12_text_112 (by decide) rfl ?_
      refine ge_sub [0, 1, 2, 3, 4] rfl ?_
      refine fin (e_all (p_txr r u) u N 1 1 1).2.2 _ ?_
      intro q k hz
      by_cases h7 : q = 77
      · subst h7; rfl
      · by_cases h6 : q = 76
        · subst h6
          show (p_fw (p_f1 (g1 76) u N 1 1 1) (e_all (p_txr r u) u N 1 1 1).2.1 0 ((e_all (p_txr r u) u N 1 1 1).1 && decide ((e_all (p_txr r u) u N 1 1 1).2.1 = N))) k = f k
          rw [fw_out _ _ _ _ _ _ _ _ _ _ (fun z => hz (Or.inl ⟨rfl, z⟩))]
          exact hg 76 k hz
        · rw [ge_m_o _ _ _ h7 h6, ge_m_o _ _ _ h7 h6]
          have := hg q k hz
          rw [ge_m_o _ _ _ h7 h6] at this
          exact this
    · exact absurd h_94 (by decide)
  have key : ∀ (m i : Nat), i + m = 50 → ge_B X ge_SH YX12_text 45 (fun v2 g2 => v2 = (some (.int (-10 - nI (e_all (p_txr r u) u N 1 1 1).2.1))) ∧ g2 = (ge_m (ge_row g 80 r) (upd r 4 0) f)) 30 [(2, .int (nI i)), (0, .ref (ge_ad X.1 76)), (1, .int v)] [] (ge_m (ge_row g 80 r) (p_txk r u i) f) := by
    intro m
    induction m with
    | zero =>
      intro i hi
      obtain rfl : i = 50 := hi
      refine gq_iload_n (pc := 30) dX12_text_30 rfl ?_
      refine gq_bipush (pc := 31) dX12_text_31 kb_50 ?_
      refine gq_ic_ge (pc := 33) 66 dX12_text_33 (by decide) (fun h_33 => ?_) (fun h_33 => ?_)
      · refine gq_aload_n (pc := 66) dX12_text_66 rfl ?_
        refine gq_getr (pc := 67) dX12_text_67 fl_X12_7_12 sh_76 rfl ?_
        refine gq_bipush (pc := 70) dX12_text_70 kb_6 ?_
        refine gq_iload_n (pc := 72) dX12_text_72 rfl ?_
        refine gq_iadd (pc := 73) dX12_text_73 ?_
        refine gq_aload_n (pc := 74) dX12_text_74 rfl ?_
        refine gq_getr (pc := 75) dX12_text_75 fl_X12_7_12 sh_76 rfl ?_
        refine gq_iconst (pc := 78) dX12_text_78 kc_4 ?_
        refine qm_ald (pc := 79) dX12_text_79 kl_4 (by first | decide | omega) ?_
        refine gq_tov (v := r 4) (show r 4 = p_txk r u 50 4 from (if_neg (by omega)).symm) ?_
        refine qm_ast (pc := 80) dX12_text_80 (ge_nadd kl_6 hv) (by omega) ?_
        refine gq_sub [0, 1, 2] rfl ?_
        exact mid
      · exact absurd (by decide) h_33
    | succ m ih =>
      intro i hi
      refine gq_iload_n (pc := 30) dX12_text_30 rfl ?_
      refine gq_bipush (pc := 31) dX12_text_31 kb_50 ?_
      refine gq_ic_ge (pc := 33) 66 dX12_text_33 (by decide) (fun h_33 => ?_) (fun h_33 => ?_)
      · exact absurd ((nI_leI (a := 50) (b := i) (by omega) (by omega)).mp h_33) (by omega)
      · refine gq_aload_n (pc := 36) dX12_text_36 rfl ?_
        refine gq_getr (pc := 37) dX12_text_37 fl_X12_7_12 sh_76 rfl ?_
        refine gq_sipush (pc := 40) dX12_text_40 kq_144 ?_
        refine gq_bipush (pc := 43) dX12_text_43 kb_50 ?_
        refine gq_iload_n (pc := 45) dX12_text_45 rfl ?_
        refine gq_imul (pc := 46) dX12_text_46 ?_
        refine gq_iadd (pc := 47) dX12_text_47 ?_
        refine gq_iload_n (pc := 48) dX12_text_48 rfl ?_
        refine gq_iadd (pc := 49) dX12_text_49 ?_
        refine gq_aload_n (pc := 50) dX12_text_50 rfl ?_
        refine gq_getr (pc := 51) dX12_text_51 fl_X12_7_12 sh_76 rfl ?_
        refine gq_bipush (pc := 54) dX12_text_54 kb_74 ?_
        refine gq_iload_n (pc := 56) dX12_text_56 rfl ?_
        refine gq_iadd (pc := 57) dX12_text_57 ?_
        refine qm_ald (pc := 58) dX12_text_58 (ge_nadd kl_74 rfl) (by omega) ?_
        refine qm_ast (pc := 59) dX12_text_59 (ge_nadd (ge_nadd kl_144 (ge_nmul kl_50 hv)) rfl) (by omega) ?_
        rw [p_txk_s (by omega)]
        refine gq_iinc (pc := 60) (l' := [(2, _), (0, _), (1, _)]) dX12_text_60 rfl (ge_inc1 i) (by decide) rfl ?_
        refine gq_goto (pc := 63) 30 dX12_text_63 (by decide) ?_
        refine gq_sub [0, 1, 2] rfl ?_
        exact ih (i + 1) (by omega)
  refine gq_iload_n (pc := 0) dX12_text_0 rfl ?_
  refine gq_iconst (pc := 1) dX12_text_1 kc_0 ?_
  refine gq_iconst (pc := 2) dX12_text_2 kc_1 ?_
  refine gq_rS3i (pc := 3) dX12_text_3 cs_X12_41 (k_in _ _ _) ⟨by decide, by decide⟩ (Nat.le_of_ble_eq_true rfl) ?_
  refine gq_if_ne (pc := 6) 16 dX12_text_6 (by decide) (fun h_6 => ?_) (fun h_6 => ?_)
  · refine gq_aload_n (pc := 16) dX12_text_16 rfl ?_
    refine gq_aload_n (pc := 17) dX12_text_17 rfl ?_
    refine gq_getr (pc := 18) dX12_text_18 fl_X12_7_12 sh_76 rfl ?_
    refine gq_aload_n (pc := 21) dX12_text_21 rfl ?_
    refine gq_getr (pc := 22) dX12_text_22 fl_X12_19_12 sh_76 rfl ?_
    refine gq_rV2v (pc := 25) dX12_text_25 cv_X12_170 sh_76 (k_move_to sh_80 (by decide) (by decide)) ⟨by decide, by decide⟩ rfl rfl (Nat.le_of_ble_eq_true rfl) ?_
    refine gq_iconst (pc := 28) dX12_text_28 kc_0 ?_
    refine gq_istore_n (pc := 29) (l' := [(2, _), (0, _), (1, _)]) dX12_text_29 (by decide) rfl ?_
    refine gq_sub [0, 1, 2] rfl ?_
    refine gq_tog (g := ge_m (ge_row g 80 r) (p_txk r u 0) f) (by rw [show p_txk r u 0 = r from by funext i; exact if_neg (by omega)]) ?_
    exact key 50 0 (by omega)
  · exact absurd h_6 (p_in_le (N := 1) hv (by omega) (by decide))
end X1
