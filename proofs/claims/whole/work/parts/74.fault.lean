section X1
variable {X : ge_X} {g : ge_G} {r x hb f : Nat → Int32} {N u : Nat}
/-- the reader is given a tape and a use -/
def ge_r0 (g : ge_G) (u : Nat) : ge_G := ge_up (ge_up g 55 1 1) 55 2 (nI u)
theorem rl_0 : ge_up (ge_up (ge_r0 g u) 55 3 0) 56 1 0 = ge_rl (ge_r0 g u) 0 [] := by
  funext q k
  by_cases h : q = 56
  · subst h
    by_cases hk : k = 1
    · subst hk; rfl
    · show upd (ge_r0 g u 56) 1 0 k = (if k = 1 then _ else ge_r0 g u 56 k)
      rw [pk_un hk, if_neg hk]
  · rw [ge_up_row _ _ _ h]
    by_cases h5 : q = 55
    · subst h5
      by_cases hk : k = 3
      · subst hk; rfl
      · show upd (ge_r0 g u 55) 3 0 k = (if k = 3 then _ else ge_r0 g u 55 k)
        rw [pk_un hk, if_neg hk]
    · rw [ge_up_row _ _ _ h5]
      unfold ge_rl
      rw [if_neg h5, if_neg h]
      by_cases h7 : q = 57
      · subst h7; rw [if_pos rfl, if_neg (show ¬ k < ([] : List Int32).length from Nat.not_lt_zero _)]
      · rw [if_neg h7]
theorem q_all_0 : q_all (ge_r0 g u) u N = q_all g u N := by
  have e : ge_r0 g u 59 = g 59 := rfl
  unfold q_all t_r
  rw [e]
def q_fv (y : q_R) (N : Nat) : Int32 := if y.1 = true then (if y.2.1 = N then -1 else nI y.2.1) else nI y.2.1
theorem q_all_fit (hN2 : N ≤ 50) : (q_all g u N).2.1 ≤ N := by
  unfold q_all
  exact (q_fit_who (g := g) (u := u) (N := N) 5 0 (Nat.zero_le _)).2.1
set_option maxHeartbeats 400000 in
theorem rd_fault (hN : g 58 1 = nI N) (hu2 : u < 2) (hN2 : N ≤ 50) : ge_N X ge_SH YX9_faultOf 46 [.ref (ge_ad X.1 55), .ref (ge_ad X.1 58), .int (nI u)] g (some (.int (q_fv (q_all g u N) N))) (ge_rl (ge_r0 g u) (q_all g u N).2.1 (q_all g u N).2.2) := by
  have hfit := q_all_fit (g := g) (u := u) hN2
  have hw := rd_whole (X := X) (g := ge_r0 g u) (u := u) (N := N) (show ¬ (1 : Int32) = 0 by decide) rfl hN hu2 hN2
  rw [q_all_0] at hw
  refine gq_ofB (l := [(0, .ref (ge_ad X.1 55)), (1, .ref (ge_ad X.1 58)), (2, .int (nI u))]) (by decide) (Nat.le_of_ble_eq_true rfl) rfl ?_
  refine gq_aload_n (pc := 0) dX9_faultOf_0 rfl ?_
  refine gq_aload_n (pc := 1) dX9_faultOf_1 rfl ?_
  refine gq_puto (pc := 2) dX9_faultOf_2 fp_X9_20_9 sh_55 rfl ?_
  refine gq_aload_n (pc := 5) dX9_faultOf_5 rfl ?_
  refine gq_iload_n (pc := 6) dX9_faultOf_6 rfl ?_
  refine gq_puti (pc := 7) dX9_faultOf_7 fp_X9_23_9 sh_55 rfl ?_
  refine gq_aload_n (pc := 10) dX9_faultOf_10 rfl ?_
  refine gq_iconst (pc := 11) dX9_faultOf_11 kc_0 ?_
  refine gq_puti (pc := 12) dX9_faultOf_12 fp_X9_27_9 sh_55 rfl ?_
  refine gq_aload_n (pc := 15) dX9_faultOf_15 rfl ?_
  refine gq_getr (pc := 16) dX9_faultOf_16 fl_X9_14_9 sh_55 rfl ?_
  refine gq_iconst (pc := 19) dX9_faultOf_19 kc_0 ?_
  refine gq_puti (pc := 20) dX9_faultOf_20 fp_X9_30_7 sh_56 rfl ?_
  refine gq_tog (g := ge_rl (ge_r0 g u) 0 []) rl_0.symm ?_
  refine gq_aload_n (pc := 23) dX9_faultOf_23 rfl ?_
  refine gq_iconst (pc := 24) dX9_faultOf_24 kc_0 ?_
  refine gq_rV1i (pc := 25) dX9_faultOf_25 cv_X9_33 sh_55 hw ⟨by decide, by decide⟩ rfl rfl (Nat.le_of_ble_eq_true rfl) ?_
  have ht : ¬ ge_r0 g u 55 1 = 0 := (show ¬ (1 : Int32) = 0 by decide)
  have hN : ge_r0 g u 58 1 = nI N := hN
  refine gq_if_eq (pc := 28) 49 dX9_faultOf_28 (by decide) (fun h_28 => ?_) (fun h_28 => ?_)
  · refine gq_aload_n (pc := 49) dX9_faultOf_49 rfl ?_
    refine rd_at (pc := 50) dX9_faultOf_50 fl_X9_27_9 ?_
    exact gq_iret (pc := 53) rfl dX9_faultOf_53 ⟨by unfold q_fv; first | (rw [if_pos (p_b_n.mp h_28), if_pos ((nI_eq (by omega) (by omega)).mp (by first | exact h_42 | exact Decidable.not_not.mp h_42))]; done) | (rw [if_pos (p_b_n.mp h_28), if_neg (fun z => h_42 (by rw [z]))]; done) | (rw [if_neg (by rw [p_b_0.mp h_28]; decide)]), rfl⟩
  · refine gq_aload_n (pc := 31) dX9_faultOf_31 rfl ?_
    refine rd_at (pc := 32) dX9_faultOf_32 fl_X9_27_9 ?_
    refine gq_aload_n (pc := 35) dX9_faultOf_35 rfl ?_
    refine rd_tape (pc := 36) ht dX9_faultOf_36 fl_X9_20_9 ?_
    refine rd_sz (pc := 39) hN dX9_faultOf_39 fl_X9_30_7 ?_
    refine gq_ic_ne (pc := 42) 49 dX9_faultOf_42 (by decide) (fun h_42 => ?_) (fun h_42 => ?_)
    · refine gq_aload_n (pc := 49) dX9_faultOf_49 rfl ?_
      refine rd_at (pc := 50) dX9_faultOf_50 fl_X9_27_9 ?_
      exact gq_iret (pc := 53) rfl dX9_faultOf_53 ⟨by unfold q_fv; first | (rw [if_pos (p_b_n.mp h_28), if_pos ((nI_eq (by omega) (by omega)).mp (by first | exact h_42 | exact Decidable.not_not.mp h_42))]; done) | (rw [if_pos (p_b_n.mp h_28), if_neg (fun z => h_42 (by rw [z]))]; done) | (rw [if_neg (by rw [p_b_0.mp h_28]; decide)]), rfl⟩
    · refine gq_iconst (pc := 45) dX9_faultOf_45 kc_m1 ?_
      refine gq_goto (pc := 46) 53 dX9_faultOf_46 (by decide) ?_
      exact gq_iret (pc := 53) rfl dX9_faultOf_53 ⟨by unfold q_fv; first | (rw [if_pos (p_b_n.mp h_28), if_pos ((nI_eq (by omega) (by omega)).mp (by first | exact h_42 | exact Decidable.not_not.mp h_42))]; done) | (rw [if_pos (p_b_n.mp h_28), if_neg (fun z => h_42 (by rw [z]))]; done) | (rw [if_neg (by rw [p_b_0.mp h_28]; decide)]), rfl⟩
end X1
