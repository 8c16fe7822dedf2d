section P5
variable {X : ge_X} {g : ge_G} {r f x hb : Nat → Int32} {c : Nat}
/-- a kind is of a kind -/
def p_isk : Nat → Int32 → Bool
  | 0, v => (v == 0)
  | 1, v => (v == 1 || (v == 0))
  | 2, v => (v == 2 || (v == 0))
  | 3, v => (v == 3 || (v == 0))
  | 4, v => (v == 4 || (v == 1 || (v == 0)))
  | 5, v => (v == 5 || (v == 2 || (v == 0)))
  | 6, v => (v == 6 || (v == 3 || (v == 0)))
  | _, _ => false
theorem p_isk_1 (v : Int32) : p_isk 1 v = (v == 1 || p_isk 0 v) := rfl
theorem p_isk_2 (v : Int32) : p_isk 2 v = (v == 2 || p_isk 0 v) := rfl
theorem p_isk_3 (v : Int32) : p_isk 3 v = (v == 3 || p_isk 0 v) := rfl
theorem p_isk_4 (v : Int32) : p_isk 4 v = (v == 4 || p_isk 1 v) := rfl
theorem p_isk_5 (v : Int32) : p_isk 5 v = (v == 5 || p_isk 2 v) := rfl
theorem p_isk_6 (v : Int32) : p_isk 6 v = (v == 6 || p_isk 3 v) := rfl
theorem p_b_nar (q : Bool) : narrow .boolean (.int (p_b q)) = .int (p_b q) := by cases q <;> rfl
set_option maxHeartbeats 400000 in
theorem c_isOf_0_4 (v : Int32) : ge_N X ge_SH YX1_isOf 0 [.ref (ge_ad X.1 4), .int v] (ge_k g 25 r x hb) (some (.int (p_b (p_isk 0 v)))) (ge_k g 25 r x hb) := by
  refine gq_ofB (l := [(0, .ref (ge_ad X.1 4)), (1, .int v)]) (by decide) (Nat.le_of_ble_eq_true rfl) rfl ?_
  refine gq_iload_n (pc := 0) dX1_isOf_0 rfl ?_
  refine gq_if_ne (pc := 1) 8 dX1_isOf_1 (by decide) (fun h_1 => ?_) (fun h_1 => ?_)
  · refine gq_iconst (pc := 8) dX1_isOf_8 kc_0 ?_
    exact gq_zret (pc := 9) rfl rfl dX1_isOf_9 ⟨by first | (simp [p_isk, p_b, h_1]; done), rfl⟩
  · refine gq_iconst (pc := 4) dX1_isOf_4 kc_1 ?_
    refine gq_goto (pc := 5) 9 dX1_isOf_5 (by decide) ?_
    exact gq_zret (pc := 9) rfl rfl dX1_isOf_9 ⟨by first | (simp [p_isk, p_b, h_1]; done), rfl⟩
set_option maxHeartbeats 400000 in
theorem c_isOf_0_5 (v : Int32) : ge_N X ge_SH YX1_isOf 0 [.ref (ge_ad X.1 5), .int v] (ge_k g 25 r x hb) (some (.int (p_b (p_isk 0 v)))) (ge_k g 25 r x hb) := by
  refine gq_ofB (l := [(0, .ref (ge_ad X.1 5)), (1, .int v)]) (by decide) (Nat.le_of_ble_eq_true rfl) rfl ?_
  refine gq_iload_n (pc := 0) dX1_isOf_0 rfl ?_
  refine gq_if_ne (pc := 1) 8 dX1_isOf_1 (by decide) (fun h_1 => ?_) (fun h_1 => ?_)
  · refine gq_iconst (pc := 8) dX1_isOf_8 kc_0 ?_
    exact gq_zret (pc := 9) rfl rfl dX1_isOf_9 ⟨by first | (simp [p_isk, p_b, h_1]; done), rfl⟩
  · refine gq_iconst (pc := 4) dX1_isOf_4 kc_1 ?_
    refine gq_goto (pc := 5) 9 dX1_isOf_5 (by decide) ?_
    exact gq_zret (pc := 9) rfl rfl dX1_isOf_9 ⟨by first | (simp [p_isk, p_b, h_1]; done), rfl⟩
set_option maxHeartbeats 400000 in
theorem c_isOf_0_6 (v : Int32) : ge_N X ge_SH YX1_isOf 0 [.ref (ge_ad X.1 6), .int v] (ge_k g 25 r x hb) (some (.int (p_b (p_isk 0 v)))) (ge_k g 25 r x hb) := by
  refine gq_ofB (l := [(0, .ref (ge_ad X.1 6)), (1, .int v)]) (by decide) (Nat.le_of_ble_eq_true rfl) rfl ?_
  refine gq_iload_n (pc := 0) dX1_isOf_0 rfl ?_
  refine gq_if_ne (pc := 1) 8 dX1_isOf_1 (by decide) (fun h_1 => ?_) (fun h_1 => ?_)
  · refine gq_iconst (pc := 8) dX1_isOf_8 kc_0 ?_
    exact gq_zret (pc := 9) rfl rfl dX1_isOf_9 ⟨by first | (simp [p_isk, p_b, h_1]; done), rfl⟩
  · refine gq_iconst (pc := 4) dX1_isOf_4 kc_1 ?_
    refine gq_goto (pc := 5) 9 dX1_isOf_5 (by decide) ?_
    exact gq_zret (pc := 9) rfl rfl dX1_isOf_9 ⟨by first | (simp [p_isk, p_b, h_1]; done), rfl⟩
set_option maxHeartbeats 400000 in
theorem c_isOf_0_7 (v : Int32) : ge_N X ge_SH YX1_isOf 0 [.ref (ge_ad X.1 7), .int v] (ge_k g 25 r x hb) (some (.int (p_b (p_isk 0 v)))) (ge_k g 25 r x hb) := by
  refine gq_ofB (l := [(0, .ref (ge_ad X.1 7)), (1, .int v)]) (by decide) (Nat.le_of_ble_eq_true rfl) rfl ?_
  refine gq_iload_n (pc := 0) dX1_isOf_0 rfl ?_
  refine gq_if_ne (pc := 1) 8 dX1_isOf_1 (by decide) (fun h_1 => ?_) (fun h_1 => ?_)
  · refine gq_iconst (pc := 8) dX1_isOf_8 kc_0 ?_
    exact gq_zret (pc := 9) rfl rfl dX1_isOf_9 ⟨by first | (simp [p_isk, p_b, h_1]; done), rfl⟩
  · refine gq_iconst (pc := 4) dX1_isOf_4 kc_1 ?_
    refine gq_goto (pc := 5) 9 dX1_isOf_5 (by decide) ?_
    exact gq_zret (pc := 9) rfl rfl dX1_isOf_9 ⟨by first | (simp [p_isk, p_b, h_1]; done), rfl⟩
set_option maxHeartbeats 400000 in
theorem c_isOf_0_8 (v : Int32) : ge_N X ge_SH YX1_isOf 0 [.ref (ge_ad X.1 8), .int v] (ge_k g 25 r x hb) (some (.int (p_b (p_isk 0 v)))) (ge_k g 25 r x hb) := by
  refine gq_ofB (l := [(0, .ref (ge_ad X.1 8)), (1, .int v)]) (by decide) (Nat.le_of_ble_eq_true rfl) rfl ?_
  refine gq_iload_n (pc := 0) dX1_isOf_0 rfl ?_
  refine gq_if_ne (pc := 1) 8 dX1_isOf_1 (by decide) (fun h_1 => ?_) (fun h_1 => ?_)
  · refine gq_iconst (pc := 8) dX1_isOf_8 kc_0 ?_
    exact gq_zret (pc := 9) rfl rfl dX1_isOf_9 ⟨by first | (simp [p_isk, p_b, h_1]; done), rfl⟩
  · refine gq_iconst (pc := 4) dX1_isOf_4 kc_1 ?_
    refine gq_goto (pc := 5) 9 dX1_isOf_5 (by decide) ?_
    exact gq_zret (pc := 9) rfl rfl dX1_isOf_9 ⟨by first | (simp [p_isk, p_b, h_1]; done), rfl⟩
set_option maxHeartbeats 400000 in
theorem c_isOf_0_9 (v : Int32) : ge_N X ge_SH YX1_isOf 0 [.ref (ge_ad X.1 9), .int v] (ge_k g 25 r x hb) (some (.int (p_b (p_isk 0 v)))) (ge_k g 25 r x hb) := by
  refine gq_ofB (l := [(0, .ref (ge_ad X.1 9)), (1, .int v)]) (by decide) (Nat.le_of_ble_eq_true rfl) rfl ?_
  refine gq_iload_n (pc := 0) dX1_isOf_0 rfl ?_
  refine gq_if_ne (pc := 1) 8 dX1_isOf_1 (by decide) (fun h_1 => ?_) (fun h_1 => ?_)
  · refine gq_iconst (pc := 8) dX1_isOf_8 kc_0 ?_
    exact gq_zret (pc := 9) rfl rfl dX1_isOf_9 ⟨by first | (simp [p_isk, p_b, h_1]; done), rfl⟩
  · refine gq_iconst (pc := 4) dX1_isOf_4 kc_1 ?_
    refine gq_goto (pc := 5) 9 dX1_isOf_5 (by decide) ?_
    exact gq_zret (pc := 9) rfl rfl dX1_isOf_9 ⟨by first | (simp [p_isk, p_b, h_1]; done), rfl⟩
set_option maxHeartbeats 400000 in
theorem c_isOf_0_10 (v : Int32) : ge_N X ge_SH YX1_isOf 0 [.ref (ge_ad X.1 10), .int v] (ge_k g 25 r x hb) (some (.int (p_b (p_isk 0 v)))) (ge_k g 25 r x hb) := by
  refine gq_ofB (l := [(0, .ref (ge_ad X.1 10)), (1, .int v)]) (by decide) (Nat.le_of_ble_eq_true rfl) rfl ?_
  refine gq_iload_n (pc := 0) dX1_isOf_0 rfl ?_
  refine gq_if_ne (pc := 1) 8 dX1_isOf_1 (by decide) (fun h_1 => ?_) (fun h_1 => ?_)
  · refine gq_iconst (pc := 8) dX1_isOf_8 kc_0 ?_
    exact gq_zret (pc := 9) rfl rfl dX1_isOf_9 ⟨by first | (simp [p_isk, p_b, h_1]; done), rfl⟩
  · refine gq_iconst (pc := 4) dX1_isOf_4 kc_1 ?_
    refine gq_goto (pc := 5) 9 dX1_isOf_5 (by decide) ?_
    exact gq_zret (pc := 9) rfl rfl dX1_isOf_9 ⟨by first | (simp [p_isk, p_b, h_1]; done), rfl⟩
set_option maxHeartbeats 400000 in
theorem c_isOf_1_5 (v : Int32) : ge_N X ge_SH YX6_isOf 1 [.ref (ge_ad X.1 5), .int v] (ge_k g 25 r x hb) (some (.int (p_b (p_isk 1 v)))) (ge_k g 25 r x hb) := by
  refine gq_ofB (l := [(0, .ref (ge_ad X.1 5)), (1, .int v)]) (by decide) (Nat.le_of_ble_eq_true rfl) rfl ?_
  refine gq_iload_n (pc := 0) dX6_isOf_0 rfl ?_
  refine gq_iconst (pc := 1) dX6_isOf_1 kc_1 ?_
  refine gq_ic_eq (pc := 2) 13 dX6_isOf_2 (by decide) (fun h_2 => ?_) (fun h_2 => ?_)
  · refine gq_iconst (pc := 13) dX6_isOf_13 kc_1 ?_
    refine gq_goto (pc := 14) 18 dX6_isOf_14 (by decide) ?_
    exact gq_zret (pc := 18) rfl rfl dX6_isOf_18 ⟨by rw [h_2]; rfl, rfl⟩
  · refine gq_aload_n (pc := 5) dX6_isOf_5 rfl ?_
    refine gq_iload_n (pc := 6) dX6_isOf_6 rfl ?_
    refine gq_rP1i (pc := 7) dX6_isOf_7 cp_X6_7 sh_5 (c_isOf_0_5 _) ⟨by decide, by decide⟩ rfl (Nat.le_of_ble_eq_true rfl) ?_
    refine gq_if_eq (pc := 10) 17 dX6_isOf_10 (by decide) (fun h_10 => ?_) (fun h_10 => ?_)
    · refine gq_iconst (pc := 17) dX6_isOf_17 kc_0 ?_
      exact gq_zret (pc := 18) rfl rfl dX6_isOf_18 ⟨by rw [p_isk_1, p_b_0.mp h_10, Bool.or_false, beq_eq_false_iff_ne.mpr h_2]; rfl, rfl⟩
    · refine gq_iconst (pc := 13) dX6_isOf_13 kc_1 ?_
      refine gq_goto (pc := 14) 18 dX6_isOf_14 (by decide) ?_
      exact gq_zret (pc := 18) rfl rfl dX6_isOf_18 ⟨by rw [p_isk_1, p_b_n.mp h_10, Bool.or_true]; rfl, rfl⟩
set_option maxHeartbeats 400000 in
theorem c_isOf_1_8 (v : Int32) : ge_N X ge_SH YX6_isOf 1 [.ref (ge_ad X.1 8), .int v] (ge_k g 25 r x hb) (some (.int (p_b (p_isk 1 v)))) (ge_k g 25 r x hb) := by
  refine gq_ofB (l := [(0, .ref (ge_ad X.1 8)), (1, .int v)]) (by decide) (Nat.le_of_ble_eq_true rfl) rfl ?_
  refine gq_iload_n (pc := 0) dX6_isOf_0 rfl ?_
  refine gq_iconst (pc := 1) dX6_isOf_1 kc_1 ?_
  refine gq_ic_eq (pc := 2) 13 dX6_isOf_2 (by decide) (fun h_2 => ?_) (fun h_2 => ?_)
  · refine gq_iconst (pc := 13) dX6_isOf_13 kc_1 ?_
    refine gq_goto (pc := 14) 18 dX6_isOf_14 (by decide) ?_
    exact gq_zret (pc := 18) rfl rfl dX6_isOf_18 ⟨by rw [h_2]; rfl, rfl⟩
  · refine gq_aload_n (pc := 5) dX6_isOf_5 rfl ?_
    refine gq_iload_n (pc := 6) dX6_isOf_6 rfl ?_
    refine gq_rP1i (pc := 7) dX6_isOf_7 cp_X6_7 sh_8 (c_isOf_0_8 _) ⟨by decide, by decide⟩ rfl (Nat.le_of_ble_eq_true rfl) ?_
    refine gq_if_eq (pc := 10) 17 dX6_isOf_10 (by decide) (fun h_10 => ?_) (fun h_10 => ?_)
    · refine gq_iconst (pc := 17) dX6_isOf_17 kc_0 ?_
      exact gq_zret (pc := 18) rfl rfl dX6_isOf_18 ⟨by rw [p_isk_1, p_b_0.mp h_10, Bool.or_false, beq_eq_false_iff_ne.mpr h_2]; rfl, rfl⟩
    · refine gq_iconst (pc := 13) dX6_isOf_13 kc_1 ?_
      refine gq_goto (pc := 14) 18 dX6_isOf_14 (by decide) ?_
      exact gq_zret (pc := 18) rfl rfl dX6_isOf_18 ⟨by rw [p_isk_1, p_b_n.mp h_10, Bool.or_true]; rfl, rfl⟩
set_option maxHeartbeats 400000 in
theorem c_isOf_2_6 (v : Int32) : ge_N X ge_SH YX2_isOf 1 [.ref (ge_ad X.1 6), .int v] (ge_k g 25 r x hb) (some (.int (p_b (p_isk 2 v)))) (ge_k g 25 r x hb) := by
  refine gq_ofB (l := [(0, .ref (ge_ad X.1 6)), (1, .int v)]) (by decide) (Nat.le_of_ble_eq_true rfl) rfl ?_
  refine gq_iload_n (pc := 0) dX2_isOf_0 rfl ?_
  refine gq_iconst (pc := 1) dX2_isOf_1 kc_2 ?_
  refine gq_ic_eq (pc := 2) 13 dX2_isOf_2 (by decide) (fun h_2 => ?_) (fun h_2 => ?_)
  · refine gq_iconst (pc := 13) dX2_isOf_13 kc_1 ?_
    refine gq_goto (pc := 14) 18 dX2_isOf_14 (by decide) ?_
    exact gq_zret (pc := 18) rfl rfl dX2_isOf_18 ⟨by rw [h_2]; rfl, rfl⟩
  · refine gq_aload_n (pc := 5) dX2_isOf_5 rfl ?_
    refine gq_iload_n (pc := 6) dX2_isOf_6 rfl ?_
    refine gq_rP1i (pc := 7) dX2_isOf_7 cp_X2_7 sh_6 (c_isOf_0_6 _) ⟨by decide, by decide⟩ rfl (Nat.le_of_ble_eq_true rfl) ?_
    refine gq_if_eq (pc := 10) 17 dX2_isOf_10 (by decide) (fun h_10 => ?_) (fun h_10 => ?_)
    · refine gq_iconst (pc := 17) dX2_isOf_17 kc_0 ?_
      exact gq_zret (pc := 18) rfl rfl dX2_isOf_18 ⟨by rw [p_isk_2, p_b_0.mp h_10, Bool.or_false, beq_eq_false_iff_ne.mpr h_2]; rfl, rfl⟩
    · refine gq_iconst (pc := 13) dX2_isOf_13 kc_1 ?_
      refine gq_goto (pc := 14) 18 dX2_isOf_14 (by decide) ?_
      exact gq_zret (pc := 18) rfl rfl dX2_isOf_18 ⟨by rw [p_isk_2, p_b_n.mp h_10, Bool.or_true]; rfl, rfl⟩
set_option maxHeartbeats 400000 in
theorem c_isOf_2_9 (v : Int32) : ge_N X ge_SH YX2_isOf 1 [.ref (ge_ad X.1 9), .int v] (ge_k g 25 r x hb) (some (.int (p_b (p_isk 2 v)))) (ge_k g 25 r x hb) := by
  refine gq_ofB (l := [(0, .ref (ge_ad X.1 9)), (1, .int v)]) (by decide) (Nat.le_of_ble_eq_true rfl) rfl ?_
  refine gq_iload_n (pc := 0) dX2_isOf_0 rfl ?_
  refine gq_iconst (pc := 1) dX2_isOf_1 kc_2 ?_
  refine gq_ic_eq (pc := 2) 13 dX2_isOf_2 (by decide) (fun h_2 => ?_) (fun h_2 => ?_)
  · refine gq_iconst (pc := 13) dX2_isOf_13 kc_1 ?_
    refine gq_goto (pc := 14) 18 dX2_isOf_14 (by decide) ?_
    exact gq_zret (pc := 18) rfl rfl dX2_isOf_18 ⟨by rw [h_2]; rfl, rfl⟩
  · refine gq_aload_n (pc := 5) dX2_isOf_5 rfl ?_
    refine gq_iload_n (pc := 6) dX2_isOf_6 rfl ?_
    refine gq_rP1i (pc := 7) dX2_isOf_7 cp_X2_7 sh_9 (c_isOf_0_9 _) ⟨by decide, by decide⟩ rfl (Nat.le_of_ble_eq_true rfl) ?_
    refine gq_if_eq (pc := 10) 17 dX2_isOf_10 (by decide) (fun h_10 => ?_) (fun h_10 => ?_)
    · refine gq_iconst (pc := 17) dX2_isOf_17 kc_0 ?_
      exact gq_zret (pc := 18) rfl rfl dX2_isOf_18 ⟨by rw [p_isk_2, p_b_0.mp h_10, Bool.or_false, beq_eq_false_iff_ne.mpr h_2]; rfl, rfl⟩
    · refine gq_iconst (pc := 13) dX2_isOf_13 kc_1 ?_
      refine gq_goto (pc := 14) 18 dX2_isOf_14 (by decide) ?_
      exact gq_zret (pc := 18) rfl rfl dX2_isOf_18 ⟨by rw [p_isk_2, p_b_n.mp h_10, Bool.or_true]; rfl, rfl⟩
set_option maxHeartbeats 400000 in
theorem c_isOf_3_7 (v : Int32) : ge_N X ge_SH YX3_isOf 1 [.ref (ge_ad X.1 7), .int v] (ge_k g 25 r x hb) (some (.int (p_b (p_isk 3 v)))) (ge_k g 25 r x hb) := by
  refine gq_ofB (l := [(0, .ref (ge_ad X.1 7)), (1, .int v)]) (by decide) (Nat.le_of_ble_eq_true rfl) rfl ?_
  refine gq_iload_n (pc := 0) dX3_isOf_0 rfl ?_
  refine gq_iconst (pc := 1) dX3_isOf_1 kc_3 ?_
  refine gq_ic_eq (pc := 2) 13 dX3_isOf_2 (by decide) (fun h_2 => ?_) (fun h_2 => ?_)
  · refine gq_iconst (pc := 13) dX3_isOf_13 kc_1 ?_
    refine gq_goto (pc := 14) 18 dX3_isOf_14 (by decide) ?_
    exact gq_zret (pc := 18) rfl rfl dX3_isOf_18 ⟨by rw [h_2]; rfl, rfl⟩
  · refine gq_aload_n (pc := 5) dX3_isOf_5 rfl ?_
    refine gq_iload_n (pc := 6) dX3_isOf_6 rfl ?_
    refine gq_rP1i (pc := 7) dX3_isOf_7 cp_X3_7 sh_7 (c_isOf_0_7 _) ⟨by decide, by decide⟩ rfl (Nat.le_of_ble_eq_true rfl) ?_
    refine gq_if_eq (pc := 10) 17 dX3_isOf_10 (by decide) (fun h_10 => ?_) (fun h_10 => ?_)
    · refine gq_iconst (pc := 17) dX3_isOf_17 kc_0 ?_
      exact gq_zret (pc := 18) rfl rfl dX3_isOf_18 ⟨by rw [p_isk_3, p_b_0.mp h_10, Bool.or_false, beq_eq_false_iff_ne.mpr h_2]; rfl, rfl⟩
    · refine gq_iconst (pc := 13) dX3_isOf_13 kc_1 ?_
      refine gq_goto (pc := 14) 18 dX3_isOf_14 (by decide) ?_
      exact gq_zret (pc := 18) rfl rfl dX3_isOf_18 ⟨by rw [p_isk_3, p_b_n.mp h_10, Bool.or_true]; rfl, rfl⟩
set_option maxHeartbeats 400000 in
theorem c_isOf_3_10 (v : Int32) : ge_N X ge_SH YX3_isOf 1 [.ref (ge_ad X.1 10), .int v] (ge_k g 25 r x hb) (some (.int (p_b (p_isk 3 v)))) (ge_k g 25 r x hb) := by
  refine gq_ofB (l := [(0, .ref (ge_ad X.1 10)), (1, .int v)]) (by decide) (Nat.le_of_ble_eq_true rfl) rfl ?_
  refine gq_iload_n (pc := 0) dX3_isOf_0 rfl ?_
  refine gq_iconst (pc := 1) dX3_isOf_1 kc_3 ?_
  refine gq_ic_eq (pc := 2) 13 dX3_isOf_2 (by decide) (fun h_2 => ?_) (fun h_2 => ?_)
  · refine gq_iconst (pc := 13) dX3_isOf_13 kc_1 ?_
    refine gq_goto (pc := 14) 18 dX3_isOf_14 (by decide) ?_
    exact gq_zret (pc := 18) rfl rfl dX3_isOf_18 ⟨by rw [h_2]; rfl, rfl⟩
  · refine gq_aload_n (pc := 5) dX3_isOf_5 rfl ?_
    refine gq_iload_n (pc := 6) dX3_isOf_6 rfl ?_
    refine gq_rP1i (pc := 7) dX3_isOf_7 cp_X3_7 sh_10 (c_isOf_0_10 _) ⟨by decide, by decide⟩ rfl (Nat.le_of_ble_eq_true rfl) ?_
    refine gq_if_eq (pc := 10) 17 dX3_isOf_10 (by decide) (fun h_10 => ?_) (fun h_10 => ?_)
    · refine gq_iconst (pc := 17) dX3_isOf_17 kc_0 ?_
      exact gq_zret (pc := 18) rfl rfl dX3_isOf_18 ⟨by rw [p_isk_3, p_b_0.mp h_10, Bool.or_false, beq_eq_false_iff_ne.mpr h_2]; rfl, rfl⟩
    · refine gq_iconst (pc := 13) dX3_isOf_13 kc_1 ?_
      refine gq_goto (pc := 14) 18 dX3_isOf_14 (by decide) ?_
      exact gq_zret (pc := 18) rfl rfl dX3_isOf_18 ⟨by rw [p_isk_3, p_b_n.mp h_10, Bool.or_true]; rfl, rfl⟩
set_option maxHeartbeats 400000 in
theorem c_isOf_4_8 (v : Int32) : ge_N X ge_SH YX0_isOf 2 [.ref (ge_ad X.1 8), .int v] (ge_k g 25 r x hb) (some (.int (p_b (p_isk 4 v)))) (ge_k g 25 r x hb) := by
  refine gq_ofB (l := [(0, .ref (ge_ad X.1 8)), (1, .int v)]) (by decide) (Nat.le_of_ble_eq_true rfl) rfl ?_
  refine gq_iload_n (pc := 0) dX0_isOf_0 rfl ?_
  refine gq_iconst (pc := 1) dX0_isOf_1 kc_4 ?_
  refine gq_ic_eq (pc := 2) 13 dX0_isOf_2 (by decide) (fun h_2 => ?_) (fun h_2 => ?_)
  · refine gq_iconst (pc := 13) dX0_isOf_13 kc_1 ?_
    refine gq_goto (pc := 14) 18 dX0_isOf_14 (by decide) ?_
    exact gq_zret (pc := 18) rfl rfl dX0_isOf_18 ⟨by rw [h_2]; rfl, rfl⟩
  · refine gq_aload_n (pc := 5) dX0_isOf_5 rfl ?_
    refine gq_iload_n (pc := 6) dX0_isOf_6 rfl ?_
    refine gq_rP1i (pc := 7) dX0_isOf_7 cp_X0_7 sh_8 (c_isOf_1_8 _) ⟨by decide, by decide⟩ rfl (Nat.le_of_ble_eq_true rfl) ?_
    refine gq_if_eq (pc := 10) 17 dX0_isOf_10 (by decide) (fun h_10 => ?_) (fun h_10 => ?_)
    · refine gq_iconst (pc := 17) dX0_isOf_17 kc_0 ?_
      exact gq_zret (pc := 18) rfl rfl dX0_isOf_18 ⟨by rw [p_isk_4, p_b_0.mp h_10, Bool.or_false, beq_eq_false_iff_ne.mpr h_2]; rfl, rfl⟩
    · refine gq_iconst (pc := 13) dX0_isOf_13 kc_1 ?_
      refine gq_goto (pc := 14) 18 dX0_isOf_14 (by decide) ?_
      exact gq_zret (pc := 18) rfl rfl dX0_isOf_18 ⟨by rw [p_isk_4, p_b_n.mp h_10, Bool.or_true]; rfl, rfl⟩
set_option maxHeartbeats 400000 in
theorem c_isOf_5_9 (v : Int32) : ge_N X ge_SH YX8_isOf 2 [.ref (ge_ad X.1 9), .int v] (ge_k g 25 r x hb) (some (.int (p_b (p_isk 5 v)))) (ge_k g 25 r x hb) := by
  refine gq_ofB (l := [(0, .ref (ge_ad X.1 9)), (1, .int v)]) (by decide) (Nat.le_of_ble_eq_true rfl) rfl ?_
  refine gq_iload_n (pc := 0) dX8_isOf_0 rfl ?_
  refine gq_iconst (pc := 1) dX8_isOf_1 kc_5 ?_
  refine gq_ic_eq (pc := 2) 13 dX8_isOf_2 (by decide) (fun h_2 => ?_) (fun h_2 => ?_)
  · refine gq_iconst (pc := 13) dX8_isOf_13 kc_1 ?_
    refine gq_goto (pc := 14) 18 dX8_isOf_14 (by decide) ?_
    exact gq_zret (pc := 18) rfl rfl dX8_isOf_18 ⟨by rw [h_2]; rfl, rfl⟩
  · refine gq_aload_n (pc := 5) dX8_isOf_5 rfl ?_
    refine gq_iload_n (pc := 6) dX8_isOf_6 rfl ?_
    refine gq_rP1i (pc := 7) dX8_isOf_7 cp_X8_7 sh_9 (c_isOf_2_9 _) ⟨by decide, by decide⟩ rfl (Nat.le_of_ble_eq_true rfl) ?_
    refine gq_if_eq (pc := 10) 17 dX8_isOf_10 (by decide) (fun h_10 => ?_) (fun h_10 => ?_)
    · refine gq_iconst (pc := 17) dX8_isOf_17 kc_0 ?_
      exact gq_zret (pc := 18) rfl rfl dX8_isOf_18 ⟨by rw [p_isk_5, p_b_0.mp h_10, Bool.or_false, beq_eq_false_iff_ne.mpr h_2]; rfl, rfl⟩
    · refine gq_iconst (pc := 13) dX8_isOf_13 kc_1 ?_
      refine gq_goto (pc := 14) 18 dX8_isOf_14 (by decide) ?_
      exact gq_zret (pc := 18) rfl rfl dX8_isOf_18 ⟨by rw [p_isk_5, p_b_n.mp h_10, Bool.or_true]; rfl, rfl⟩
set_option maxHeartbeats 400000 in
theorem c_isOf_6_10 (v : Int32) : ge_N X ge_SH YX5_isOf 2 [.ref (ge_ad X.1 10), .int v] (ge_k g 25 r x hb) (some (.int (p_b (p_isk 6 v)))) (ge_k g 25 r x hb) := by
  refine gq_ofB (l := [(0, .ref (ge_ad X.1 10)), (1, .int v)]) (by decide) (Nat.le_of_ble_eq_true rfl) rfl ?_
  refine gq_iload_n (pc := 0) dX5_isOf_0 rfl ?_
  refine gq_bipush (pc := 1) dX5_isOf_1 kb_6 ?_
  refine gq_ic_eq (pc := 3) 14 dX5_isOf_3 (by decide) (fun h_3 => ?_) (fun h_3 => ?_)
  · refine gq_iconst (pc := 14) dX5_isOf_14 kc_1 ?_
    refine gq_goto (pc := 15) 19 dX5_isOf_15 (by decide) ?_
    exact gq_zret (pc := 19) rfl rfl dX5_isOf_19 ⟨by rw [h_3]; rfl, rfl⟩
  · refine gq_aload_n (pc := 6) dX5_isOf_6 rfl ?_
    refine gq_iload_n (pc := 7) dX5_isOf_7 rfl ?_
    refine gq_rP1i (pc := 8) dX5_isOf_8 cp_X5_7 sh_10 (c_isOf_3_10 _) ⟨by decide, by decide⟩ rfl (Nat.le_of_ble_eq_true rfl) ?_
    refine gq_if_eq (pc := 11) 18 dX5_isOf_11 (by decide) (fun h_11 => ?_) (fun h_11 => ?_)
    · refine gq_iconst (pc := 18) dX5_isOf_18 kc_0 ?_
      exact gq_zret (pc := 19) rfl rfl dX5_isOf_19 ⟨by rw [p_isk_6, p_b_0.mp h_11, Bool.or_false, beq_eq_false_iff_ne.mpr h_3]; rfl, rfl⟩
    · refine gq_iconst (pc := 14) dX5_isOf_14 kc_1 ?_
      refine gq_goto (pc := 15) 19 dX5_isOf_15 (by decide) ?_
      exact gq_zret (pc := 19) rfl rfl dX5_isOf_19 ⟨by rw [p_isk_6, p_b_n.mp h_11, Bool.or_true]; rfl, rfl⟩
set_option maxHeartbeats 400000 in
theorem c_as_0_1 {e v : Int32} {j E : Nat} (he : e = nI j) (hj : j < E) (hE : E ≤ 8) (e2 : r 2 = nI E) (hv : ¬ p_in v 0 6 = 0) (ek : p_e r j 0 = nI 0) (hq : p_isk 0 v = true) : ge_N X ge_SH YX11_as 4 [.ref (ge_ad X.1 0), .int e, .int v] (ge_k g 25 r x hb) (some (.int (p_e r j 1))) (ge_k g 25 r x hb) := by
  refine gq_ofB (l := [(0, .ref (ge_ad X.1 0)), (1, .int e), (2, .int v)]) (by decide) (Nat.le_of_ble_eq_true rfl) rfl ?_
  refine gq_aload_n (pc := 0) dX11_as_0 rfl ?_
  refine gq_iload_n (pc := 1) dX11_as_1 rfl ?_
  refine gq_rV1i (pc := 2) dX11_as_2 cv_X11_126 sh_0 (c_noEye _) ⟨by decide, by decide⟩ rfl rfl (Nat.le_of_ble_eq_true rfl) ?_
  refine gq_if_ne (pc := 5) 18 dX11_as_5 (by decide) (fun h_5 => ?_) (fun h_5 => ?_)
  · exact absurd (p_nt_0.mpr (p_in_E he hj (by omega) e2)) h_5
  · refine gq_iload_n (pc := 8) dX11_as_8 rfl ?_
    refine gq_iconst (pc := 9) dX11_as_9 kc_0 ?_
    refine gq_bipush (pc := 10) dX11_as_10 kb_6 ?_
    refine gq_rS3i (pc := 12) dX11_as_12 cs_X11_105 (c_outside _ _ _) ⟨by decide, by decide⟩ (Nat.le_of_ble_eq_true rfl) ?_
    refine gq_if_eq (pc := 15) 24 dX11_as_15 (by decide) (fun h_15 => ?_) (fun h_15 => ?_)
    · refine gq_aload_n (pc := 24) dX11_as_24 rfl ?_
      refine gq_getr (pc := 25) dX11_as_25 fl_X11_41_11 sh_0 rfl ?_
      refine gq_aload_n (pc := 28) dX11_as_28 rfl ?_
      refine gq_getr (pc := 29) dX11_as_29 fl_X11_60_11 sh_0 rfl ?_
      refine gq_getr (pc := 32) dX11_as_32 fl_X11_129_10 sh_25 rfl ?_
      refine gq_iload_n (pc := 35) dX11_as_35 rfl ?_
      refine kq_ald2 (pw := 25) (pc := 36) (by decide) dX11_as_36 he (by first | decide | omega) ?_
      refine gq_aald (pc := 37) dX11_as_37 sh_3 rfl ek rfl (by decide) ?_
      refine gq_iload_n (pc := 38) dX11_as_38 rfl ?_
      refine gq_rU1i (pc := 39) dX11_as_39 cu_X11_179_1 sh_4 (c_isOf_0_4 _) ⟨by decide, by decide⟩ rfl rfl (Nat.le_of_ble_eq_true rfl) ?_
      refine gq_if_ne (pc := 42) 51 dX11_as_42 (by decide) (fun h_42 => ?_) (fun h_42 => ?_)
      · refine gq_aload_n (pc := 51) dX11_as_51 rfl ?_
        refine gq_getr (pc := 52) dX11_as_52 fl_X11_60_11 sh_0 rfl ?_
        refine gq_getr (pc := 55) dX11_as_55 fl_X11_132_10 sh_25 rfl ?_
        refine gq_iload_n (pc := 58) dX11_as_58 rfl ?_
        refine kq_ald3 (pw := 25) (pc := 59) (by decide) dX11_as_59 he (by first | decide | omega) ?_
        exact gq_iret (pc := 60) rfl dX11_as_60 ⟨rfl, rfl⟩
      · exact absurd (p_b_0.mp h_42) (by rw [hq]; decide)
    · exact absurd (p_nt_0.mpr hv) h_15
set_option maxHeartbeats 1000000 in
theorem m_as_0_1 {e v : Int32} {j E : Nat} (he : e = nI j) (hj : j < E) (hE : E ≤ 8) (e2 : r 2 = nI E) (hv : ¬ p_in v 0 6 = 0) (ek : p_e r j 0 = nI 0) (hq : p_isk 0 v = true) : ge_N X ge_SH YX12_as 2 [.ref (ge_ad X.1 76), .int e, .int v] (ge_m g r f) (some (.int (p_e r j 1))) (ge_m g r f) := by
  refine gq_ofB (l := [(0, .ref (ge_ad X.1 76)), (1, .int e), (2, .int v)]) (by decide) (Nat.le_of_ble_eq_true rfl) rfl ?_
  have L0 : p_isk 0 v = true → ge_B X ge_SH YX12_as 2 (fun v2 g2 => v2 = (some (.int (p_e r j 1))) ∧ g2 = (ge_m g r f)) 32 [(3, .int 0), (0, .ref (ge_ad X.1 76)), (1, .int e), (2, .int v)] [] (ge_m g r f) := by
    intro hw
    refine gq_iload_n (pc := 32) dX12_as_32 rfl ?_
    refine gq_if_lt (pc := 33) 49 dX12_as_33 (by decide) (fun h_33 => ?_) (fun h_33 => ?_)
    · exact absurd h_33 (by decide)
    · refine gq_iload_n (pc := 36) dX12_as_36 rfl ?_
      refine gq_iload_n (pc := 37) dX12_as_37 rfl ?_
      refine gq_ic_eq (pc := 38) 49 dX12_as_38 (by decide) (fun h_38 => ?_) (fun h_38 => ?_)
      · refine gq_iload_n (pc := 49) dX12_as_49 rfl ?_
        refine gq_if_ge (pc := 50) 62 dX12_as_50 (by decide) (fun h_50 => ?_) (fun h_50 => ?_)
        · refine gq_aload_n (pc := 62) dX12_as_62 rfl ?_
          refine gq_iload_n (pc := 63) dX12_as_63 rfl ?_
          refine gq_iconst (pc := 64) dX12_as_64 kc_1 ?_
          refine gq_rV2i (pc := 65) dX12_as_65 cv_X12_69 sh_76 (k_its he kl_1 (by omega)) ⟨by decide, by decide⟩ rfl rfl (Nat.le_of_ble_eq_true rfl) ?_
          exact gq_iret (pc := 68) rfl dX12_as_68 ⟨rfl, rfl⟩
        · exact absurd h_50 (by decide)
      · refine gq_iload_n (pc := 41) dX12_as_41 rfl ?_
        refine gq_rS1i (pc := 42) dX12_as_42 cs_X12_93 (k_above _) ⟨by decide, by decide⟩ (Nat.le_of_ble_eq_true rfl) ?_
        refine gq_istore_n (pc := 45) (l' := [(3, _), (0, _), (1, _), (2, _)]) dX12_as_45 (by decide) rfl ?_
        refine gq_goto (pc := 46) 32 dX12_as_46 (by decide) ?_
        refine gq_sub [0, 1, 2, 3] rfl ?_
        exact absurd (by simp [p_isk] at hw; exact hw.symm) h_38
  refine gq_aload_n (pc := 0) dX12_as_0 rfl ?_
  refine gq_iload_n (pc := 1) dX12_as_1 rfl ?_
  refine gq_rV1i (pc := 2) dX12_as_2 cv_X12_66 sh_76 (k_isEye _) ⟨by decide, by decide⟩ rfl rfl (Nat.le_of_ble_eq_true rfl) ?_
  refine gq_if_eq (pc := 5) 18 dX12_as_5 (by decide) (fun h_5 => ?_) (fun h_5 => ?_)
  · exact absurd h_5 (p_in_E he hj (by omega) e2)
  · refine gq_iload_n (pc := 8) dX12_as_8 rfl ?_
    refine gq_iconst (pc := 9) dX12_as_9 kc_0 ?_
    refine gq_bipush (pc := 10) dX12_as_10 kb_6 ?_
    refine gq_rS3i (pc := 12) dX12_as_12 cs_X12_41 (k_in _ _ _) ⟨by decide, by decide⟩ (Nat.le_of_ble_eq_true rfl) ?_
    refine gq_if_ne (pc := 15) 25 dX12_as_15 (by decide) (fun h_15 => ?_) (fun h_15 => ?_)
    · refine gq_aload_n (pc := 25) dX12_as_25 rfl ?_
      refine gq_iload_n (pc := 26) dX12_as_26 rfl ?_
      refine gq_iconst (pc := 27) dX12_as_27 kc_0 ?_
      refine gq_rV2i (pc := 28) dX12_as_28 cv_X12_69 sh_76 (k_its he kl_0 (by omega)) ⟨by decide, by decide⟩ rfl rfl (Nat.le_of_ble_eq_true rfl) ?_
      refine gq_istore_n (pc := 31) (l' := [(3, _), (0, _), (1, _), (2, _)]) dX12_as_31 (by decide) rfl ?_
      refine gq_sub [0, 1, 2, 3] rfl ?_
      rw [ek]
      exact L0 hq
    · exact absurd h_15 hv
set_option maxHeartbeats 400000 in
theorem c_as_0_0 {e v : Int32} {j E : Nat} (he : e = nI j) (hj : j < E) (hE : E ≤ 8) (e2 : r 2 = nI E) (hv : ¬ p_in v 0 6 = 0) (ek : p_e r j 0 = nI 0) (hq : p_isk 0 v = false) : ge_N X ge_SH YX11_as 4 [.ref (ge_ad X.1 0), .int e, .int v] (ge_k g 25 r x hb) (some (.int (-1000000000 - 5))) (ge_k (ge_up g 75 5 (g 75 5 + 1)) 25 r x hb) := by
  refine gq_ofB (l := [(0, .ref (ge_ad X.1 0)), (1, .int e), (2, .int v)]) (by decide) (Nat.le_of_ble_eq_true rfl) rfl ?_
  refine gq_aload_n (pc := 0) dX11_as_0 rfl ?_
  refine gq_iload_n (pc := 1) dX11_as_1 rfl ?_
  refine gq_rV1i (pc := 2) dX11_as_2 cv_X11_126 sh_0 (c_noEye _) ⟨by decide, by decide⟩ rfl rfl (Nat.le_of_ble_eq_true rfl) ?_
  refine gq_if_ne (pc := 5) 18 dX11_as_5 (by decide) (fun h_5 => ?_) (fun h_5 => ?_)
  · exact absurd (p_nt_0.mpr (p_in_E he hj (by omega) e2)) h_5
  · refine gq_iload_n (pc := 8) dX11_as_8 rfl ?_
    refine gq_iconst (pc := 9) dX11_as_9 kc_0 ?_
    refine gq_bipush (pc := 10) dX11_as_10 kb_6 ?_
    refine gq_rS3i (pc := 12) dX11_as_12 cs_X11_105 (c_outside _ _ _) ⟨by decide, by decide⟩ (Nat.le_of_ble_eq_true rfl) ?_
    refine gq_if_eq (pc := 15) 24 dX11_as_15 (by decide) (fun h_15 => ?_) (fun h_15 => ?_)
    · refine gq_aload_n (pc := 24) dX11_as_24 rfl ?_
      refine gq_getr (pc := 25) dX11_as_25 fl_X11_41_11 sh_0 rfl ?_
      refine gq_aload_n (pc := 28) dX11_as_28 rfl ?_
      refine gq_getr (pc := 29) dX11_as_29 fl_X11_60_11 sh_0 rfl ?_
      refine gq_getr (pc := 32) dX11_as_32 fl_X11_129_10 sh_25 rfl ?_
      refine gq_iload_n (pc := 35) dX11_as_35 rfl ?_
      refine kq_ald2 (pw := 25) (pc := 36) (by decide) dX11_as_36 he (by first | decide | omega) ?_
      refine gq_aald (pc := 37) dX11_as_37 sh_3 rfl ek rfl (by decide) ?_
      refine gq_iload_n (pc := 38) dX11_as_38 rfl ?_
      refine gq_rU1i (pc := 39) dX11_as_39 cu_X11_179_1 sh_4 (c_isOf_0_4 _) ⟨by decide, by decide⟩ rfl rfl (Nat.le_of_ble_eq_true rfl) ?_
      refine gq_if_ne (pc := 42) 51 dX11_as_42 (by decide) (fun h_42 => ?_) (fun h_42 => ?_)
      · exact absurd (p_b_n.mp h_42) (by rw [hq]; decide)
      · refine gq_aload_n (pc := 45) dX11_as_45 rfl ?_
        refine gq_iconst (pc := 46) dX11_as_46 kc_5 ?_
        refine gq_rV1i (pc := 47) dX11_as_47 cv_X11_109 sh_0 (c_error kl_5 (by decide)) ⟨by decide, by decide⟩ rfl rfl (Nat.le_of_ble_eq_true rfl) ?_
        exact gq_iret (pc := 50) rfl dX11_as_50 ⟨rfl, rfl⟩
    · exact absurd (p_nt_0.mpr hv) h_15
set_option maxHeartbeats 1000000 in
theorem m_as_0_0 {e v : Int32} {j E : Nat} (he : e = nI j) (hj : j < E) (hE : E ≤ 8) (e2 : r 2 = nI E) (hv : ¬ p_in v 0 6 = 0) (ek : p_e r j 0 = nI 0) (hq : p_isk 0 v = false) : ge_N X ge_SH YX12_as 2 [.ref (ge_ad X.1 76), .int e, .int v] (ge_m g r f) (some (.int (-1000000005))) (ge_m (ge_up g 81 5 (g 81 5 + 1)) r f) := by
  refine gq_ofB (l := [(0, .ref (ge_ad X.1 76)), (1, .int e), (2, .int v)]) (by decide) (Nat.le_of_ble_eq_true rfl) rfl ?_
  have Lm1 : ge_B X ge_SH YX12_as 2 (fun v2 g2 => v2 = (some (.int (-1000000005))) ∧ g2 = (ge_m (ge_up g 81 5 (g 81 5 + 1)) r f)) 32 [(3, .int (-1)), (0, .ref (ge_ad X.1 76)), (1, .int e), (2, .int v)] [] (ge_m g r f) := by
    refine gq_iload_n (pc := 32) dX12_as_32 rfl ?_
    refine gq_if_lt (pc := 33) 49 dX12_as_33 (by decide) (fun h_33 => ?_) (fun h_33 => ?_)
    · refine gq_iload_n (pc := 49) dX12_as_49 rfl ?_
      refine gq_if_ge (pc := 50) 62 dX12_as_50 (by decide) (fun h_50 => ?_) (fun h_50 => ?_)
      · exact absurd h_50 (by decide)
      · refine gq_aload_n (pc := 53) dX12_as_53 rfl ?_
        refine gq_ldc (pc := 54) dX12_as_54 kn_X12_96 ?_
        refine gq_rV1i (pc := 56) dX12_as_56 cv_X12_54 sh_76 (k_errs (j := 5) (by decide) (by decide)) ⟨by decide, by decide⟩ rfl rfl (Nat.le_of_ble_eq_true rfl) ?_
        refine gq_goto (pc := 59) 68 dX12_as_59 (by decide) ?_
        exact gq_iret (pc := 68) rfl dX12_as_68 ⟨rfl, rfl⟩
    · exact absurd h_33 (by decide)
  have L0 : p_isk 0 v = false → ge_B X ge_SH YX12_as 2 (fun v2 g2 => v2 = (some (.int (-1000000005))) ∧ g2 = (ge_m (ge_up g 81 5 (g 81 5 + 1)) r f)) 32 [(3, .int 0), (0, .ref (ge_ad X.1 76)), (1, .int e), (2, .int v)] [] (ge_m g r f) := by
    intro hw
    have h0 : ¬ v = 0 := by intro q; rw [q] at hw; revert hw; decide
    refine gq_iload_n (pc := 32) dX12_as_32 rfl ?_
    refine gq_if_lt (pc := 33) 49 dX12_as_33 (by decide) (fun h_33 => ?_) (fun h_33 => ?_)
    · exact absurd h_33 (by decide)
    · refine gq_iload_n (pc := 36) dX12_as_36 rfl ?_
      refine gq_iload_n (pc := 37) dX12_as_37 rfl ?_
      refine gq_ic_eq (pc := 38) 49 dX12_as_38 (by decide) (fun h_38 => ?_) (fun h_38 => ?_)
      · exact absurd h_38.symm h0
      · refine gq_iload_n (pc := 41) dX12_as_41 rfl ?_
        refine gq_rS1i (pc := 42) dX12_as_42 cs_X12_93 (k_above _) ⟨by decide, by decide⟩ (Nat.le_of_ble_eq_true rfl) ?_
        refine gq_istore_n (pc := 45) (l' := [(3, _), (0, _), (1, _), (2, _)]) dX12_as_45 (by decide) rfl ?_
        refine gq_goto (pc := 46) 32 dX12_as_46 (by decide) ?_
        refine gq_sub [0, 1, 2, 3] rfl ?_
        exact Lm1
  refine gq_aload_n (pc := 0) dX12_as_0 rfl ?_
  refine gq_iload_n (pc := 1) dX12_as_1 rfl ?_
  refine gq_rV1i (pc := 2) dX12_as_2 cv_X12_66 sh_76 (k_isEye _) ⟨by decide, by decide⟩ rfl rfl (Nat.le_of_ble_eq_true rfl) ?_
  refine gq_if_eq (pc := 5) 18 dX12_as_5 (by decide) (fun h_5 => ?_) (fun h_5 => ?_)
  · exact absurd h_5 (p_in_E he hj (by omega) e2)
  · refine gq_iload_n (pc := 8) dX12_as_8 rfl ?_
    refine gq_iconst (pc := 9) dX12_as_9 kc_0 ?_
    refine gq_bipush (pc := 10) dX12_as_10 kb_6 ?_
    refine gq_rS3i (pc := 12) dX12_as_12 cs_X12_41 (k_in _ _ _) ⟨by decide, by decide⟩ (Nat.le_of_ble_eq_true rfl) ?_
    refine gq_if_ne (pc := 15) 25 dX12_as_15 (by decide) (fun h_15 => ?_) (fun h_15 => ?_)
    · refine gq_aload_n (pc := 25) dX12_as_25 rfl ?_
      refine gq_iload_n (pc := 26) dX12_as_26 rfl ?_
      refine gq_iconst (pc := 27) dX12_as_27 kc_0 ?_
      refine gq_rV2i (pc := 28) dX12_as_28 cv_X12_69 sh_76 (k_its he kl_0 (by omega)) ⟨by decide, by decide⟩ rfl rfl (Nat.le_of_ble_eq_true rfl) ?_
      refine gq_istore_n (pc := 31) (l' := [(3, _), (0, _), (1, _), (2, _)]) dX12_as_31 (by decide) rfl ?_
      refine gq_sub [0, 1, 2, 3] rfl ?_
      rw [ek]
      exact L0 hq
    · exact absurd h_15 hv
set_option maxHeartbeats 400000 in
theorem c_as_1_1 {e v : Int32} {j E : Nat} (he : e = nI j) (hj : j < E) (hE : E ≤ 8) (e2 : r 2 = nI E) (hv : ¬ p_in v 0 6 = 0) (ek : p_e r j 0 = nI 1) (hq : p_isk 1 v = true) : ge_N X ge_SH YX11_as 4 [.ref (ge_ad X.1 0), .int e, .int v] (ge_k g 25 r x hb) (some (.int (p_e r j 1))) (ge_k g 25 r x hb) := by
  refine gq_ofB (l := [(0, .ref (ge_ad X.1 0)), (1, .int e), (2, .int v)]) (by decide) (Nat.le_of_ble_eq_true rfl) rfl ?_
  refine gq_aload_n (pc := 0) dX11_as_0 rfl ?_
  refine gq_iload_n (pc := 1) dX11_as_1 rfl ?_
  refine gq_rV1i (pc := 2) dX11_as_2 cv_X11_126 sh_0 (c_noEye _) ⟨by decide, by decide⟩ rfl rfl (Nat.le_of_ble_eq_true rfl) ?_
  refine gq_if_ne (pc := 5) 18 dX11_as_5 (by decide) (fun h_5 => ?_) (fun h_5 => ?_)
  · exact absurd (p_nt_0.mpr (p_in_E he hj (by omega) e2)) h_5
  · refine gq_iload_n (pc := 8) dX11_as_8 rfl ?_
    refine gq_iconst (pc := 9) dX11_as_9 kc_0 ?_
    refine gq_bipush (pc := 10) dX11_as_10 kb_6 ?_
    refine gq_rS3i (pc := 12) dX11_as_12 cs_X11_105 (c_outside _ _ _) ⟨by decide, by decide⟩ (Nat.le_of_ble_eq_true rfl) ?_
    refine gq_if_eq (pc := 15) 24 dX11_as_15 (by decide) (fun h_15 => ?_) (fun h_15 => ?_)
    · refine gq_aload_n (pc := 24) dX11_as_24 rfl ?_
      refine gq_getr (pc := 25) dX11_as_25 fl_X11_41_11 sh_0 rfl ?_
      refine gq_aload_n (pc := 28) dX11_as_28 rfl ?_
      refine gq_getr (pc := 29) dX11_as_29 fl_X11_60_11 sh_0 rfl ?_
      refine gq_getr (pc := 32) dX11_as_32 fl_X11_129_10 sh_25 rfl ?_
      refine gq_iload_n (pc := 35) dX11_as_35 rfl ?_
      refine kq_ald2 (pw := 25) (pc := 36) (by decide) dX11_as_36 he (by first | decide | omega) ?_
      refine gq_aald (pc := 37) dX11_as_37 sh_3 rfl ek rfl (by decide) ?_
      refine gq_iload_n (pc := 38) dX11_as_38 rfl ?_
      refine gq_rU1i (pc := 39) dX11_as_39 cu_X11_179_6 sh_5 (c_isOf_1_5 _) ⟨by decide, by decide⟩ rfl rfl (Nat.le_of_ble_eq_true rfl) ?_
      refine gq_if_ne (pc := 42) 51 dX11_as_42 (by decide) (fun h_42 => ?_) (fun h_42 => ?_)
      · refine gq_aload_n (pc := 51) dX11_as_51 rfl ?_
        refine gq_getr (pc := 52) dX11_as_52 fl_X11_60_11 sh_0 rfl ?_
        refine gq_getr (pc := 55) dX11_as_55 fl_X11_132_10 sh_25 rfl ?_
        refine gq_iload_n (pc := 58) dX11_as_58 rfl ?_
        refine kq_ald3 (pw := 25) (pc := 59) (by decide) dX11_as_59 he (by first | decide | omega) ?_
        exact gq_iret (pc := 60) rfl dX11_as_60 ⟨rfl, rfl⟩
      · exact absurd (p_b_0.mp h_42) (by rw [hq]; decide)
    · exact absurd (p_nt_0.mpr hv) h_15
set_option maxHeartbeats 1000000 in
theorem m_as_1_1 {e v : Int32} {j E : Nat} (he : e = nI j) (hj : j < E) (hE : E ≤ 8) (e2 : r 2 = nI E) (hv : ¬ p_in v 0 6 = 0) (ek : p_e r j 0 = nI 1) (hq : p_isk 1 v = true) : ge_N X ge_SH YX12_as 2 [.ref (ge_ad X.1 76), .int e, .int v] (ge_m g r f) (some (.int (p_e r j 1))) (ge_m g r f) := by
  refine gq_ofB (l := [(0, .ref (ge_ad X.1 76)), (1, .int e), (2, .int v)]) (by decide) (Nat.le_of_ble_eq_true rfl) rfl ?_
  have L0 : p_isk 0 v = true → ge_B X ge_SH YX12_as 2 (fun v2 g2 => v2 = (some (.int (p_e r j 1))) ∧ g2 = (ge_m g r f)) 32 [(3, .int 0), (0, .ref (ge_ad X.1 76)), (1, .int e), (2, .int v)] [] (ge_m g r f) := by
    intro hw
    refine gq_iload_n (pc := 32) dX12_as_32 rfl ?_
    refine gq_if_lt (pc := 33) 49 dX12_as_33 (by decide) (fun h_33 => ?_) (fun h_33 => ?_)
    · exact absurd h_33 (by decide)
    · refine gq_iload_n (pc := 36) dX12_as_36 rfl ?_
      refine gq_iload_n (pc := 37) dX12_as_37 rfl ?_
      refine gq_ic_eq (pc := 38) 49 dX12_as_38 (by decide) (fun h_38 => ?_) (fun h_38 => ?_)
      · refine gq_iload_n (pc := 49) dX12_as_49 rfl ?_
        refine gq_if_ge (pc := 50) 62 dX12_as_50 (by decide) (fun h_50 => ?_) (fun h_50 => ?_)
        · refine gq_aload_n (pc := 62) dX12_as_62 rfl ?_
          refine gq_iload_n (pc := 63) dX12_as_63 rfl ?_
          refine gq_iconst (pc := 64) dX12_as_64 kc_1 ?_
          refine gq_rV2i (pc := 65) dX12_as_65 cv_X12_69 sh_76 (k_its he kl_1 (by omega)) ⟨by decide, by decide⟩ rfl rfl (Nat.le_of_ble_eq_true rfl) ?_
          exact gq_iret (pc := 68) rfl dX12_as_68 ⟨rfl, rfl⟩
        · exact absurd h_50 (by decide)
      · refine gq_iload_n (pc := 41) dX12_as_41 rfl ?_
        refine gq_rS1i (pc := 42) dX12_as_42 cs_X12_93 (k_above _) ⟨by decide, by decide⟩ (Nat.le_of_ble_eq_true rfl) ?_
        refine gq_istore_n (pc := 45) (l' := [(3, _), (0, _), (1, _), (2, _)]) dX12_as_45 (by decide) rfl ?_
        refine gq_goto (pc := 46) 32 dX12_as_46 (by decide) ?_
        refine gq_sub [0, 1, 2, 3] rfl ?_
        exact absurd (by simp [p_isk] at hw; exact hw.symm) h_38
  have L1 : p_isk 1 v = true → ge_B X ge_SH YX12_as 2 (fun v2 g2 => v2 = (some (.int (p_e r j 1))) ∧ g2 = (ge_m g r f)) 32 [(3, .int 1), (0, .ref (ge_ad X.1 76)), (1, .int e), (2, .int v)] [] (ge_m g r f) := by
    intro hw
    refine gq_iload_n (pc := 32) dX12_as_32 rfl ?_
    refine gq_if_lt (pc := 33) 49 dX12_as_33 (by decide) (fun h_33 => ?_) (fun h_33 => ?_)
    · exact absurd h_33 (by decide)
    · refine gq_iload_n (pc := 36) dX12_as_36 rfl ?_
      refine gq_iload_n (pc := 37) dX12_as_37 rfl ?_
      refine gq_ic_eq (pc := 38) 49 dX12_as_38 (by decide) (fun h_38 => ?_) (fun h_38 => ?_)
      · refine gq_iload_n (pc := 49) dX12_as_49 rfl ?_
        refine gq_if_ge (pc := 50) 62 dX12_as_50 (by decide) (fun h_50 => ?_) (fun h_50 => ?_)
        · refine gq_aload_n (pc := 62) dX12_as_62 rfl ?_
          refine gq_iload_n (pc := 63) dX12_as_63 rfl ?_
          refine gq_iconst (pc := 64) dX12_as_64 kc_1 ?_
          refine gq_rV2i (pc := 65) dX12_as_65 cv_X12_69 sh_76 (k_its he kl_1 (by omega)) ⟨by decide, by decide⟩ rfl rfl (Nat.le_of_ble_eq_true rfl) ?_
          exact gq_iret (pc := 68) rfl dX12_as_68 ⟨rfl, rfl⟩
        · exact absurd h_50 (by decide)
      · refine gq_iload_n (pc := 41) dX12_as_41 rfl ?_
        refine gq_rS1i (pc := 42) dX12_as_42 cs_X12_93 (k_above _) ⟨by decide, by decide⟩ (Nat.le_of_ble_eq_true rfl) ?_
        refine gq_istore_n (pc := 45) (l' := [(3, _), (0, _), (1, _), (2, _)]) dX12_as_45 (by decide) rfl ?_
        refine gq_goto (pc := 46) 32 dX12_as_46 (by decide) ?_
        refine gq_sub [0, 1, 2, 3] rfl ?_
        exact L0 (by simp [p_isk] at hw ⊢; first | exact hw.resolve_left (fun q => h_38 q.symm) | (rcases hw with q | q; exact absurd q.symm h_38; exact q))
  refine gq_aload_n (pc := 0) dX12_as_0 rfl ?_
  refine gq_iload_n (pc := 1) dX12_as_1 rfl ?_
  refine gq_rV1i (pc := 2) dX12_as_2 cv_X12_66 sh_76 (k_isEye _) ⟨by decide, by decide⟩ rfl rfl (Nat.le_of_ble_eq_true rfl) ?_
  refine gq_if_eq (pc := 5) 18 dX12_as_5 (by decide) (fun h_5 => ?_) (fun h_5 => ?_)
  · exact absurd h_5 (p_in_E he hj (by omega) e2)
  · refine gq_iload_n (pc := 8) dX12_as_8 rfl ?_
    refine gq_iconst (pc := 9) dX12_as_9 kc_0 ?_
    refine gq_bipush (pc := 10) dX12_as_10 kb_6 ?_
    refine gq_rS3i (pc := 12) dX12_as_12 cs_X12_41 (k_in _ _ _) ⟨by decide, by decide⟩ (Nat.le_of_ble_eq_true rfl) ?_
    refine gq_if_ne (pc := 15) 25 dX12_as_15 (by decide) (fun h_15 => ?_) (fun h_15 => ?_)
    · refine gq_aload_n (pc := 25) dX12_as_25 rfl ?_
      refine gq_iload_n (pc := 26) dX12_as_26 rfl ?_
      refine gq_iconst (pc := 27) dX12_as_27 kc_0 ?_
      refine gq_rV2i (pc := 28) dX12_as_28 cv_X12_69 sh_76 (k_its he kl_0 (by omega)) ⟨by decide, by decide⟩ rfl rfl (Nat.le_of_ble_eq_true rfl) ?_
      refine gq_istore_n (pc := 31) (l' := [(3, _), (0, _), (1, _), (2, _)]) dX12_as_31 (by decide) rfl ?_
      refine gq_sub [0, 1, 2, 3] rfl ?_
      rw [ek]
      exact L1 hq
    · exact absurd h_15 hv
set_option maxHeartbeats 400000 in
theorem c_as_1_0 {e v : Int32} {j E : Nat} (he : e = nI j) (hj : j < E) (hE : E ≤ 8) (e2 : r 2 = nI E) (hv : ¬ p_in v 0 6 = 0) (ek : p_e r j 0 = nI 1) (hq : p_isk 1 v = false) : ge_N X ge_SH YX11_as 4 [.ref (ge_ad X.1 0), .int e, .int v] (ge_k g 25 r x hb) (some (.int (-1000000000 - 5))) (ge_k (ge_up g 75 5 (g 75 5 + 1)) 25 r x hb) := by
  refine gq_ofB (l := [(0, .ref (ge_ad X.1 0)), (1, .int e), (2, .int v)]) (by decide) (Nat.le_of_ble_eq_true rfl) rfl ?_
  refine gq_aload_n (pc := 0) dX11_as_0 rfl ?_
  refine gq_iload_n (pc := 1) dX11_as_1 rfl ?_
  refine gq_rV1i (pc := 2) dX11_as_2 cv_X11_126 sh_0 (c_noEye _) ⟨by decide, by decide⟩ rfl rfl (Nat.le_of_ble_eq_true rfl) ?_
  refine gq_if_ne (pc := 5) 18 dX11_as_5 (by decide) (fun h_5 => ?_) (fun h_5 => ?_)
  · exact absurd (p_nt_0.mpr (p_in_E he hj (by omega) e2)) h_5
  · refine gq_iload_n (pc := 8) dX11_as_8 rfl ?_
    refine gq_iconst (pc := 9) dX11_as_9 kc_0 ?_
    refine gq_bipush (pc := 10) dX11_as_10 kb_6 ?_
    refine gq_rS3i (pc := 12) dX11_as_12 cs_X11_105 (c_outside _ _ _) ⟨by decide, by decide⟩ (Nat.le_of_ble_eq_true rfl) ?_
    refine gq_if_eq (pc := 15) 24 dX11_as_15 (by decide) (fun h_15 => ?_) (fun h_15 => ?_)
    · refine gq_aload_n (pc := 24) dX11_as_24 rfl ?_
      refine gq_getr (pc := 25) dX11_as_25 fl_X11_41_11 sh_0 rfl ?_
      refine gq_aload_n (pc := 28) dX11_as_28 rfl ?_
      refine gq_getr (pc := 29) dX11_as_29 fl_X11_60_11 sh_0 rfl ?_
      refine gq_getr (pc := 32) dX11_as_32 fl_X11_129_10 sh_25 rfl ?_
      refine gq_iload_n (pc := 35) dX11_as_35 rfl ?_
      refine kq_ald2 (pw := 25) (pc := 36) (by decide) dX11_as_36 he (by first | decide | omega) ?_
      refine gq_aald (pc := 37) dX11_as_37 sh_3 rfl ek rfl (by decide) ?_
      refine gq_iload_n (pc := 38) dX11_as_38 rfl ?_
      refine gq_rU1i (pc := 39) dX11_as_39 cu_X11_179_6 sh_5 (c_isOf_1_5 _) ⟨by decide, by decide⟩ rfl rfl (Nat.le_of_ble_eq_true rfl) ?_
      refine gq_if_ne (pc := 42) 51 dX11_as_42 (by decide) (fun h_42 => ?_) (fun h_42 => ?_)
      · exact absurd (p_b_n.mp h_42) (by rw [hq]; decide)
      · refine gq_aload_n (pc := 45) dX11_as_45 rfl ?_
        refine gq_iconst (pc := 46) dX11_as_46 kc_5 ?_
        refine gq_rV1i (pc := 47) dX11_as_47 cv_X11_109 sh_0 (c_error kl_5 (by decide)) ⟨by decide, by decide⟩ rfl rfl (Nat.le_of_ble_eq_true rfl) ?_
        exact gq_iret (pc := 50) rfl dX11_as_50 ⟨rfl, rfl⟩
    · exact absurd (p_nt_0.mpr hv) h_15
set_option maxHeartbeats 1000000 in
theorem m_as_1_0 {e v : Int32} {j E : Nat} (he : e = nI j) (hj : j < E) (hE : E ≤ 8) (e2 : r 2 = nI E) (hv : ¬ p_in v 0 6 = 0) (ek : p_e r j 0 = nI 1) (hq : p_isk 1 v = false) : ge_N X ge_SH YX12_as 2 [.ref (ge_ad X.1 76), .int e, .int v] (ge_m g r f) (some (.int (-1000000005))) (ge_m (ge_up g 81 5 (g 81 5 + 1)) r f) := by
  refine gq_ofB (l := [(0, .ref (ge_ad X.1 76)), (1, .int e), (2, .int v)]) (by decide) (Nat.le_of_ble_eq_true rfl) rfl ?_
  have Lm1 : ge_B X ge_SH YX12_as 2 (fun v2 g2 => v2 = (some (.int (-1000000005))) ∧ g2 = (ge_m (ge_up g 81 5 (g 81 5 + 1)) r f)) 32 [(3, .int (-1)), (0, .ref (ge_ad X.1 76)), (1, .int e), (2, .int v)] [] (ge_m g r f) := by
    refine gq_iload_n (pc := 32) dX12_as_32 rfl ?_
    refine gq_if_lt (pc := 33) 49 dX12_as_33 (by decide) (fun h_33 => ?_) (fun h_33 => ?_)
    · refine gq_iload_n (pc := 49) dX12_as_49 rfl ?_
      refine gq_if_ge (pc := 50) 62 dX12_as_50 (by decide) (fun h_50 => ?_) (fun h_50 => ?_)
      · exact absurd h_50 (by decide)
      · refine gq_aload_n (pc := 53) dX12_as_53 rfl ?_
        refine gq_ldc (pc := 54) dX12_as_54 kn_X12_96 ?_
        refine gq_rV1i (pc := 56) dX12_as_56 cv_X12_54 sh_76 (k_errs (j := 5) (by decide) (by decide)) ⟨by decide, by decide⟩ rfl rfl (Nat.le_of_ble_eq_true rfl) ?_
        refine gq_goto (pc := 59) 68 dX12_as_59 (by decide) ?_
        exact gq_iret (pc := 68) rfl dX12_as_68 ⟨rfl, rfl⟩
    · exact absurd h_33 (by decide)
  have L0 : p_isk 0 v = false → ge_B X ge_SH YX12_as 2 (fun v2 g2 => v2 = (some (.int (-1000000005))) ∧ g2 = (ge_m (ge_up g 81 5 (g 81 5 + 1)) r f)) 32 [(3, .int 0), (0, .ref (ge_ad X.1 76)), (1, .int e), (2, .int v)] [] (ge_m g r f) := by
    intro hw
    have h0 : ¬ v = 0 := by intro q; rw [q] at hw; revert hw; decide
    refine gq_iload_n (pc := 32) dX12_as_32 rfl ?_
    refine gq_if_lt (pc := 33) 49 dX12_as_33 (by decide) (fun h_33 => ?_) (fun h_33 => ?_)
    · exact absurd h_33 (by decide)
    · refine gq_iload_n (pc := 36) dX12_as_36 rfl ?_
      refine gq_iload_n (pc := 37) dX12_as_37 rfl ?_
      refine gq_ic_eq (pc := 38) 49 dX12_as_38 (by decide) (fun h_38 => ?_) (fun h_38 => ?_)
      · exact absurd h_38.symm h0
      · refine gq_iload_n (pc := 41) dX12_as_41 rfl ?_
        refine gq_rS1i (pc := 42) dX12_as_42 cs_X12_93 (k_above _) ⟨by decide, by decide⟩ (Nat.le_of_ble_eq_true rfl) ?_
        refine gq_istore_n (pc := 45) (l' := [(3, _), (0, _), (1, _), (2, _)]) dX12_as_45 (by decide) rfl ?_
        refine gq_goto (pc := 46) 32 dX12_as_46 (by decide) ?_
        refine gq_sub [0, 1, 2, 3] rfl ?_
        exact Lm1
  have L1 : p_isk 1 v = false → ge_B X ge_SH YX12_as 2 (fun v2 g2 => v2 = (some (.int (-1000000005))) ∧ g2 = (ge_m (ge_up g 81 5 (g 81 5 + 1)) r f)) 32 [(3, .int 1), (0, .ref (ge_ad X.1 76)), (1, .int e), (2, .int v)] [] (ge_m g r f) := by
    intro hw
    have h0 : ¬ v = 1 := by intro q; rw [q] at hw; revert hw; decide
    refine gq_iload_n (pc := 32) dX12_as_32 rfl ?_
    refine gq_if_lt (pc := 33) 49 dX12_as_33 (by decide) (fun h_33 => ?_) (fun h_33 => ?_)
    · exact absurd h_33 (by decide)
    · refine gq_iload_n (pc := 36) dX12_as_36 rfl ?_
      refine gq_iload_n (pc := 37) dX12_as_37 rfl ?_
      refine gq_ic_eq (pc := 38) 49 dX12_as_38 (by decide) (fun h_38 => ?_) (fun h_38 => ?_)
      · exact absurd h_38.symm h0
      · refine gq_iload_n (pc := 41) dX12_as_41 rfl ?_
        refine gq_rS1i (pc := 42) dX12_as_42 cs_X12_93 (k_above _) ⟨by decide, by decide⟩ (Nat.le_of_ble_eq_true rfl) ?_
        refine gq_istore_n (pc := 45) (l' := [(3, _), (0, _), (1, _), (2, _)]) dX12_as_45 (by decide) rfl ?_
        refine gq_goto (pc := 46) 32 dX12_as_46 (by decide) ?_
        refine gq_sub [0, 1, 2, 3] rfl ?_
        exact L0 (by simp [p_isk] at hw ⊢; simp [hw])
  refine gq_aload_n (pc := 0) dX12_as_0 rfl ?_
  refine gq_iload_n (pc := 1) dX12_as_1 rfl ?_
  refine gq_rV1i (pc := 2) dX12_as_2 cv_X12_66 sh_76 (k_isEye _) ⟨by decide, by decide⟩ rfl rfl (Nat.le_of_ble_eq_true rfl) ?_
  refine gq_if_eq (pc := 5) 18 dX12_as_5 (by decide) (fun h_5 => ?_) (fun h_5 => ?_)
  · exact absurd h_5 (p_in_E he hj (by omega) e2)
  · refine gq_iload_n (pc := 8) dX12_as_8 rfl ?_
    refine gq_iconst (pc := 9) dX12_as_9 kc_0 ?_
    refine gq_bipush (pc := 10) dX12_as_10 kb_6 ?_
    refine gq_rS3i (pc := 12) dX12_as_12 cs_X12_41 (k_in _ _ _) ⟨by decide, by decide⟩ (Nat.le_of_ble_eq_true rfl) ?_
    refine gq_if_ne (pc := 15) 25 dX12_as_15 (by decide) (fun h_15 => ?_) (fun h_15 => ?_)
    · refine gq_aload_n (pc := 25) dX12_as_25 rfl ?_
      refine gq_iload_n (pc := 26) dX12_as_26 rfl ?_
      refine gq_iconst (pc := 27) dX12_as_27 kc_0 ?_
      refine gq_rV2i (pc := 28) dX12_as_28 cv_X12_69 sh_76 (k_its he kl_0 (by omega)) ⟨by decide, by decide⟩ rfl rfl (Nat.le_of_ble_eq_true rfl) ?_
      refine gq_istore_n (pc := 31) (l' := [(3, _), (0, _), (1, _), (2, _)]) dX12_as_31 (by decide) rfl ?_
      refine gq_sub [0, 1, 2, 3] rfl ?_
      rw [ek]
      exact L1 hq
    · exact absurd h_15 hv
set_option maxHeartbeats 400000 in
theorem c_as_2_1 {e v : Int32} {j E : Nat} (he : e = nI j) (hj : j < E) (hE : E ≤ 8) (e2 : r 2 = nI E) (hv : ¬ p_in v 0 6 = 0) (ek : p_e r j 0 = nI 2) (hq : p_isk 2 v = true) : ge_N X ge_SH YX11_as 4 [.ref (ge_ad X.1 0), .int e, .int v] (ge_k g 25 r x hb) (some (.int (p_e r j 1))) (ge_k g 25 r x hb) := by
  refine gq_ofB (l := [(0, .ref (ge_ad X.1 0)), (1, .int e), (2, .int v)]) (by decide) (Nat.le_of_ble_eq_true rfl) rfl ?_
  refine gq_aload_n (pc := 0) dX11_as_0 rfl ?_
  refine gq_iload_n (pc := 1) dX11_as_1 rfl ?_
  refine gq_rV1i (pc := 2) dX11_as_2 cv_X11_126 sh_0 (c_noEye _) ⟨by decide, by decide⟩ rfl rfl (Nat.le_of_ble_eq_true rfl) ?_
  refine gq_if_ne (pc := 5) 18 dX11_as_5 (by decide) (fun h_5 => ?_) (fun h_5 => ?_)
  · exact absurd (p_nt_0.mpr (p_in_E he hj (by omega) e2)) h_5
  · refine gq_iload_n (pc := 8) dX11_as_8 rfl ?_
    refine gq_iconst (pc := 9) dX11_as_9 kc_0 ?_
    refine gq_bipush (pc := 10) dX11_as_10 kb_6 ?_
    refine gq_rS3i (pc := 12) dX11_as_12 cs_X11_105 (c_outside _ _ _) ⟨by decide, by decide⟩ (Nat.le_of_ble_eq_true rfl) ?_
    refine gq_if_eq (pc := 15) 24 dX11_as_15 (by decide) (fun h_15 => ?_) (fun h_15 => ?_)
    · refine gq_aload_n (pc := 24) dX11_as_24 rfl ?_
      refine gq_getr (pc := 25) dX11_as_25 fl_X11_41_11 sh_0 rfl ?_
      refine gq_aload_n (pc := 28) dX11_as_28 rfl ?_
      refine gq_getr (pc := 29) dX11_as_29 fl_X11_60_11 sh_0 rfl ?_
      refine gq_getr (pc := 32) dX11_as_32 fl_X11_129_10 sh_25 rfl ?_
      refine gq_iload_n (pc := 35) dX11_as_35 rfl ?_
      refine kq_ald2 (pw := 25) (pc := 36) (by decide) dX11_as_36 he (by first | decide | omega) ?_
      refine gq_aald (pc := 37) dX11_as_37 sh_3 rfl ek rfl (by decide) ?_
      refine gq_iload_n (pc := 38) dX11_as_38 rfl ?_
      refine gq_rU1i (pc := 39) dX11_as_39 cu_X11_179_2 sh_6 (c_isOf_2_6 _) ⟨by decide, by decide⟩ rfl rfl (Nat.le_of_ble_eq_true rfl) ?_
      refine gq_if_ne (pc := 42) 51 dX11_as_42 (by decide) (fun h_42 => ?_) (fun h_42 => ?_)
      · refine gq_aload_n (pc := 51) dX11_as_51 rfl ?_
        refine gq_getr (pc := 52) dX11_as_52 fl_X11_60_11 sh_0 rfl ?_
        refine gq_getr (pc := 55) dX11_as_55 fl_X11_132_10 sh_25 rfl ?_
        refine gq_iload_n (pc := 58) dX11_as_58 rfl ?_
        refine kq_ald3 (pw := 25) (pc := 59) (by decide) dX11_as_59 he (by first | decide | omega) ?_
        exact gq_iret (pc := 60) rfl dX11_as_60 ⟨rfl, rfl⟩
      · exact absurd (p_b_0.mp h_42) (by rw [hq]; decide)
    · exact absurd (p_nt_0.mpr hv) h_15
set_option maxHeartbeats 1000000 in
theorem m_as_2_1 {e v : Int32} {j E : Nat} (he : e = nI j) (hj : j < E) (hE : E ≤ 8) (e2 : r 2 = nI E) (hv : ¬ p_in v 0 6 = 0) (ek : p_e r j 0 = nI 2) (hq : p_isk 2 v = true) : ge_N X ge_SH YX12_as 2 [.ref (ge_ad X.1 76), .int e, .int v] (ge_m g r f) (some (.int (p_e r j 1))) (ge_m g r f) := by
  refine gq_ofB (l := [(0, .ref (ge_ad X.1 76)), (1, .int e), (2, .int v)]) (by decide) (Nat.le_of_ble_eq_true rfl) rfl ?_
  have L0 : p_isk 0 v = true → ge_B X ge_SH YX12_as 2 (fun v2 g2 => v2 = (some (.int (p_e r j 1))) ∧ g2 = (ge_m g r f)) 32 [(3, .int 0), (0, .ref (ge_ad X.1 76)), (1, .int e), (2, .int v)] [] (ge_m g r f) := by
    intro hw
    refine gq_iload_n (pc := 32) dX12_as_32 rfl ?_
    refine gq_if_lt (pc := 33) 49 dX12_as_33 (by decide) (fun h_33 => ?_) (fun h_33 => ?_)
    · exact absurd h_33 (by decide)
    · refine gq_iload_n (pc := 36) dX12_as_36 rfl ?_
      refine gq_iload_n (pc := 37) dX12_as_37 rfl ?_
      refine gq_ic_eq (pc := 38) 49 dX12_as_38 (by decide) (fun h_38 => ?_) (fun h_38 => ?_)
      · refine gq_iload_n (pc := 49) dX12_as_49 rfl ?_
        refine gq_if_ge (pc := 50) 62 dX12_as_50 (by decide) (fun h_50 => ?_) (fun h_50 => ?_)
        · refine gq_aload_n (pc := 62) dX12_as_62 rfl ?_
          refine gq_iload_n (pc := 63) dX12_as_63 rfl ?_
          refine gq_iconst (pc := 64) dX12_as_64 kc_1 ?_
          refine gq_rV2i (pc := 65) dX12_as_65 cv_X12_69 sh_76 (k_its he kl_1 (by omega)) ⟨by decide, by decide⟩ rfl rfl (Nat.le_of_ble_eq_true rfl) ?_
          exact gq_iret (pc := 68) rfl dX12_as_68 ⟨rfl, rfl⟩
        · exact absurd h_50 (by decide)
      · refine gq_iload_n (pc := 41) dX12_as_41 rfl ?_
        refine gq_rS1i (pc := 42) dX12_as_42 cs_X12_93 (k_above _) ⟨by decide, by decide⟩ (Nat.le_of_ble_eq_true rfl) ?_
        refine gq_istore_n (pc := 45) (l' := [(3, _), (0, _), (1, _), (2, _)]) dX12_as_45 (by decide) rfl ?_
        refine gq_goto (pc := 46) 32 dX12_as_46 (by decide) ?_
        refine gq_sub [0, 1, 2, 3] rfl ?_
        exact absurd (by simp [p_isk] at hw; exact hw.symm) h_38
  have L2 : p_isk 2 v = true → ge_B X ge_SH YX12_as 2 (fun v2 g2 => v2 = (some (.int (p_e r j 1))) ∧ g2 = (ge_m g r f)) 32 [(3, .int 2), (0, .ref (ge_ad X.1 76)), (1, .int e), (2, .int v)] [] (ge_m g r f) := by
    intro hw
    refine gq_iload_n (pc := 32) dX12_as_32 rfl ?_
    refine gq_if_lt (pc := 33) 49 dX12_as_33 (by decide) (fun h_33 => ?_) (fun h_33 => ?_)
    · exact absurd h_33 (by decide)
    · refine gq_iload_n (pc := 36) dX12_as_36 rfl ?_
      refine gq_iload_n (pc := 37) dX12_as_37 rfl ?_
      refine gq_ic_eq (pc := 38) 49 dX12_as_38 (by decide) (fun h_38 => ?_) (fun h_38 => ?_)
      · refine gq_iload_n (pc := 49) dX12_as_49 rfl ?_
        refine gq_if_ge (pc := 50) 62 dX12_as_50 (by decide) (fun h_50 => ?_) (fun h_50 => ?_)
        · refine gq_aload_n (pc := 62) dX12_as_62 rfl ?_
          refine gq_iload_n (pc := 63) dX12_as_63 rfl ?_
          refine gq_iconst (pc := 64) dX12_as_64 kc_1 ?_
          refine gq_rV2i (pc := 65) dX12_as_65 cv_X12_69 sh_76 (k_its he kl_1 (by omega)) ⟨by decide, by decide⟩ rfl rfl (Nat.le_of_ble_eq_true rfl) ?_
          exact gq_iret (pc := 68) rfl dX12_as_68 ⟨rfl, rfl⟩
        · exact absurd h_50 (by decide)
      · refine gq_iload_n (pc := 41) dX12_as_41 rfl ?_
        refine gq_rS1i (pc := 42) dX12_as_42 cs_X12_93 (k_above _) ⟨by decide, by decide⟩ (Nat.le_of_ble_eq_true rfl) ?_
        refine gq_istore_n (pc := 45) (l' := [(3, _), (0, _), (1, _), (2, _)]) dX12_as_45 (by decide) rfl ?_
        refine gq_goto (pc := 46) 32 dX12_as_46 (by decide) ?_
        refine gq_sub [0, 1, 2, 3] rfl ?_
        exact L0 (by simp [p_isk] at hw ⊢; first | exact hw.resolve_left (fun q => h_38 q.symm) | (rcases hw with q | q; exact absurd q.symm h_38; exact q))
  refine gq_aload_n (pc := 0) dX12_as_0 rfl ?_
  refine gq_iload_n (pc := 1) dX12_as_1 rfl ?_
  refine gq_rV1i (pc := 2) dX12_as_2 cv_X12_66 sh_76 (k_isEye _) ⟨by decide, by decide⟩ rfl rfl (Nat.le_of_ble_eq_true rfl) ?_
  refine gq_if_eq (pc := 5) 18 dX12_as_5 (by decide) (fun h_5 => ?_) (fun h_5 => ?_)
  · exact absurd h_5 (p_in_E he hj (by omega) e2)
  · refine gq_iload_n (pc := 8) dX12_as_8 rfl ?_
    refine gq_iconst (pc := 9) dX12_as_9 kc_0 ?_
    refine gq_bipush (pc := 10) dX12_as_10 kb_6 ?_
    refine gq_rS3i (pc := 12) dX12_as_12 cs_X12_41 (k_in _ _ _) ⟨by decide, by decide⟩ (Nat.le_of_ble_eq_true rfl) ?_
    refine gq_if_ne (pc := 15) 25 dX12_as_15 (by decide) (fun h_15 => ?_) (fun h_15 => ?_)
    · refine gq_aload_n (pc := 25) dX12_as_25 rfl ?_
      refine gq_iload_n (pc := 26) dX12_as_26 rfl ?_
      refine gq_iconst (pc := 27) dX12_as_27 kc_0 ?_
      refine gq_rV2i (pc := 28) dX12_as_28 cv_X12_69 sh_76 (k_its he kl_0 (by omega)) ⟨by decide, by decide⟩ rfl rfl (Nat.le_of_ble_eq_true rfl) ?_
      refine gq_istore_n (pc := 31) (l' := [(3, _), (0, _), (1, _), (2, _)]) dX12_as_31 (by decide) rfl ?_
      refine gq_sub [0, 1, 2, 3] rfl ?_
      rw [ek]
      exact L2 hq
    · exact absurd h_15 hv
set_option maxHeartbeats 400000 in
theorem c_as_2_0 {e v : Int32} {j E : Nat} (he : e = nI j) (hj : j < E) (hE : E ≤ 8) (e2 : r 2 = nI E) (hv : ¬ p_in v 0 6 = 0) (ek : p_e r j 0 = nI 2) (hq : p_isk 2 v = false) : ge_N X ge_SH YX11_as 4 [.ref (ge_ad X.1 0), .int e, .int v] (ge_k g 25 r x hb) (some (.int (-1000000000 - 5))) (ge_k (ge_up g 75 5 (g 75 5 + 1)) 25 r x hb) := by
  refine gq_ofB (l := [(0, .ref (ge_ad X.1 0)), (1, .int e), (2, .int v)]) (by decide) (Nat.le_of_ble_eq_true rfl) rfl ?_
  refine gq_aload_n (pc := 0) dX11_as_0 rfl ?_
  refine gq_iload_n (pc := 1) dX11_as_1 rfl ?_
  refine gq_rV1i (pc := 2) dX11_as_2 cv_X11_126 sh_0 (c_noEye _) ⟨by decide, by decide⟩ rfl rfl (Nat.le_of_ble_eq_true rfl) ?_
  refine gq_if_ne (pc := 5) 18 dX11_as_5 (by decide) (fun h_5 => ?_) (fun h_5 => ?_)
  · exact absurd (p_nt_0.mpr (p_in_E he hj (by omega) e2)) h_5
  · refine gq_iload_n (pc := 8) dX11_as_8 rfl ?_
    refine gq_iconst (pc := 9) dX11_as_9 kc_0 ?_
    refine gq_bipush (pc := 10) dX11_as_10 kb_6 ?_
    refine gq_rS3i (pc := 12) dX11_as_12 cs_X11_105 (c_outside _ _ _) ⟨by decide, by decide⟩ (Nat.le_of_ble_eq_true rfl) ?_
    refine gq_if_eq (pc := 15) 24 dX11_as_15 (by decide) (fun h_15 => ?_) (fun h_15 => ?_)
    · refine gq_aload_n (pc := 24) dX11_as_24 rfl ?_
      refine gq_getr (pc := 25) dX11_as_25 fl_X11_41_11 sh_0 rfl ?_
      refine gq_aload_n (pc := 28) dX11_as_28 rfl ?_
      refine gq_getr (pc := 29) dX11_as_29 fl_X11_60_11 sh_0 rfl ?_
      refine gq_getr (pc := 32) dX11_as_32 fl_X11_129_10 sh_25 rfl ?_
      refine gq_iload_n (pc := 35) dX11_as_35 rfl ?_
      refine kq_ald2 (pw := 25) (pc := 36) (by decide) dX11_as_36 he (by first | decide | omega) ?_
      refine gq_aald (pc := 37) dX11_as_37 sh_3 rfl ek rfl (by decide) ?_
      refine gq_iload_n (pc := 38) dX11_as_38 rfl ?_
      refine gq_rU1i (pc := 39) dX11_as_39 cu_X11_179_2 sh_6 (c_isOf_2_6 _) ⟨by decide, by decide⟩ rfl rfl (Nat.le_of_ble_eq_true rfl) ?_
      refine gq_if_ne (pc := 42) 51 dX11_as_42 (by decide) (fun h_42 => ?_) (fun h_42 => ?_)
      · exact absurd (p_b_n.mp h_42) (by rw [hq]; decide)
      · refine gq_aload_n (pc := 45) dX11_as_45 rfl ?_
        refine gq_iconst (pc := 46) dX11_as_46 kc_5 ?_
        refine gq_rV1i (pc := 47) dX11_as_47 cv_X11_109 sh_0 (c_error kl_5 (by decide)) ⟨by decide, by decide⟩ rfl rfl (Nat.le_of_ble_eq_true rfl) ?_
        exact gq_iret (pc := 50) rfl dX11_as_50 ⟨rfl, rfl⟩
    · exact absurd (p_nt_0.mpr hv) h_15
set_option maxHeartbeats 1000000 in
theorem m_as_2_0 {e v : Int32} {j E : Nat} (he : e = nI j) (hj : j < E) (hE : E ≤ 8) (e2 : r 2 = nI E) (hv : ¬ p_in v 0 6 = 0) (ek : p_e r j 0 = nI 2) (hq : p_isk 2 v = false) : ge_N X ge_SH YX12_as 2 [.ref (ge_ad X.1 76), .int e, .int v] (ge_m g r f) (some (.int (-1000000005))) (ge_m (ge_up g 81 5 (g 81 5 + 1)) r f) := by
  refine gq_ofB (l := [(0, .ref (ge_ad X.1 76)), (1, .int e), (2, .int v)]) (by decide) (Nat.le_of_ble_eq_true rfl) rfl ?_
  have Lm1 : ge_B X ge_SH YX12_as 2 (fun v2 g2 => v2 = (some (.int (-1000000005))) ∧ g2 = (ge_m (ge_up g 81 5 (g 81 5 + 1)) r f)) 32 [(3, .int (-1)), (0, .ref (ge_ad X.1 76)), (1, .int e), (2, .int v)] [] (ge_m g r f) := by
    refine gq_iload_n (pc := 32) dX12_as_32 rfl ?_
    refine gq_if_lt (pc := 33) 49 dX12_as_33 (by decide) (fun h_33 => ?_) (fun h_33 => ?_)
    · refine gq_iload_n (pc := 49) dX12_as_49 rfl ?_
      refine gq_if_ge (pc := 50) 62 dX12_as_50 (by decide) (fun h_50 => ?_) (fun h_50 => ?_)
      · exact absurd h_50 (by decide)
      · refine gq_aload_n (pc := 53) dX12_as_53 rfl ?_
        refine gq_ldc (pc := 54) dX12_as_54 kn_X12_96 ?_
        refine gq_rV1i (pc := 56) dX12_as_56 cv_X12_54 sh_76 (k_errs (j := 5) (by decide) (by decide)) ⟨by decide, by decide⟩ rfl rfl (Nat.le_of_ble_eq_true rfl) ?_
        refine gq_goto (pc := 59) 68 dX12_as_59 (by decide) ?_
        exact gq_iret (pc := 68) rfl dX12_as_68 ⟨rfl, rfl⟩
    · exact absurd h_33 (by decide)
  have L0 : p_isk 0 v = false → ge_B X ge_SH YX12_as 2 (fun v2 g2 => v2 = (some (.int (-1000000005))) ∧ g2 = (ge_m (ge_up g 81 5 (g 81 5 + 1)) r f)) 32 [(3, .int 0), (0, .ref (ge_ad X.1 76)), (1, .int e), (2, .int v)] [] (ge_m g r f) := by
    intro hw
    have h0 : ¬ v = 0 := by intro q; rw [q] at hw; revert hw; decide
    refine gq_iload_n (pc := 32) dX12_as_32 rfl ?_
    refine gq_if_lt (pc := 33) 49 dX12_as_33 (by decide) (fun h_33 => ?_) (fun h_33 => ?_)
    · exact absurd h_33 (by decide)
    · refine gq_iload_n (pc := 36) dX12_as_36 rfl ?_
      refine gq_iload_n (pc := 37) dX12_as_37 rfl ?_
      refine gq_ic_eq (pc := 38) 49 dX12_as_38 (by decide) (fun h_38 => ?_) (fun h_38 => ?_)
      · exact absurd h_38.symm h0
      · refine gq_iload_n (pc := 41) dX12_as_41 rfl ?_
        refine gq_rS1i (pc := 42) dX12_as_42 cs_X12_93 (k_above _) ⟨by decide, by decide⟩ (Nat.le_of_ble_eq_true rfl) ?_
        refine gq_istore_n (pc := 45) (l' := [(3, _), (0, _), (1, _), (2, _)]) dX12_as_45 (by decide) rfl ?_
        refine gq_goto (pc := 46) 32 dX12_as_46 (by decide) ?_
        refine gq_sub [0, 1, 2, 3] rfl ?_
        exact Lm1
  have L2 : p_isk 2 v = false → ge_B X ge_SH YX12_as 2 (fun v2 g2 => v2 = (some (.int (-1000000005))) ∧ g2 = (ge_m (ge_up g 81 5 (g 81 5 + 1)) r f)) 32 [(3, .int 2), (0, .ref (ge_ad X.1 76)), (1, .int e), (2, .int v)] [] (ge_m g r f) := by
    intro hw
    have h0 : ¬ v = 2 := by intro q; rw [q] at hw; revert hw; decide
    refine gq_iload_n (pc := 32) dX12_as_32 rfl ?_
    refine gq_if_lt (pc := 33) 49 dX12_as_33 (by decide) (fun h_33 => ?_) (fun h_33 => ?_)
    · exact absurd h_33 (by decide)
    · refine gq_iload_n (pc := 36) dX12_as_36 rfl ?_
      refine gq_iload_n (pc := 37) dX12_as_37 rfl ?_
      refine gq_ic_eq (pc := 38) 49 dX12_as_38 (by decide) (fun h_38 => ?_) (fun h_38 => ?_)
      · exact absurd h_38.symm h0
      · refine gq_iload_n (pc := 41) dX12_as_41 rfl ?_
        refine gq_rS1i (pc := 42) dX12_as_42 cs_X12_93 (k_above _) ⟨by decide, by decide⟩ (Nat.le_of_ble_eq_true rfl) ?_
        refine gq_istore_n (pc := 45) (l' := [(3, _), (0, _), (1, _), (2, _)]) dX12_as_45 (by decide) rfl ?_
        refine gq_goto (pc := 46) 32 dX12_as_46 (by decide) ?_
        refine gq_sub [0, 1, 2, 3] rfl ?_
        exact L0 (by simp [p_isk] at hw ⊢; simp [hw])
  refine gq_aload_n (pc := 0) dX12_as_0 rfl ?_
  refine gq_iload_n (pc := 1) dX12_as_1 rfl ?_
  refine gq_rV1i (pc := 2) dX12_as_2 cv_X12_66 sh_76 (k_isEye _) ⟨by decide, by decide⟩ rfl rfl (Nat.le_of_ble_eq_true rfl) ?_
  refine gq_if_eq (pc := 5) 18 dX12_as_5 (by decide) (fun h_5 => ?_) (fun h_5 => ?_)
  · exact absurd h_5 (p_in_E he hj (by omega) e2)
  · refine gq_iload_n (pc := 8) dX12_as_8 rfl ?_
    refine gq_iconst (pc := 9) dX12_as_9 kc_0 ?_
    refine gq_bipush (pc := 10) dX12_as_10 kb_6 ?_
    refine gq_rS3i (pc := 12) dX12_as_12 cs_X12_41 (k_in _ _ _) ⟨by decide, by decide⟩ (Nat.le_of_ble_eq_true rfl) ?_
    refine gq_if_ne (pc := 15) 25 dX12_as_15 (by decide) (fun h_15 => ?_) (fun h_15 => ?_)
    · refine gq_aload_n (pc := 25) dX12_as_25 rfl ?_
      refine gq_iload_n (pc := 26) dX12_as_26 rfl ?_
      refine gq_iconst (pc := 27) dX12_as_27 kc_0 ?_
      refine gq_rV2i (pc := 28) dX12_as_28 cv_X12_69 sh_76 (k_its he kl_0 (by omega)) ⟨by decide, by decide⟩ rfl rfl (Nat.le_of_ble_eq_true rfl) ?_
      refine gq_istore_n (pc := 31) (l' := [(3, _), (0, _), (1, _), (2, _)]) dX12_as_31 (by decide) rfl ?_
      refine gq_sub [0, 1, 2, 3] rfl ?_
      rw [ek]
      exact L2 hq
    · exact absurd h_15 hv
set_option maxHeartbeats 400000 in
theorem c_as_3_1 {e v : Int32} {j E : Nat} (he : e = nI j) (hj : j < E) (hE : E ≤ 8) (e2 : r 2 = nI E) (hv : ¬ p_in v 0 6 = 0) (ek : p_e r j 0 = nI 3) (hq : p_isk 3 v = true) : ge_N X ge_SH YX11_as 4 [.ref (ge_ad X.1 0), .int e, .int v] (ge_k g 25 r x hb) (some (.int (p_e r j 1))) (ge_k g 25 r x hb) := by
  refine gq_ofB (l := [(0, .ref (ge_ad X.1 0)), (1, .int e), (2, .int v)]) (by decide) (Nat.le_of_ble_eq_true rfl) rfl ?_
  refine gq_aload_n (pc := 0) dX11_as_0 rfl ?_
  refine gq_iload_n (pc := 1) dX11_as_1 rfl ?_
  refine gq_rV1i (pc := 2) dX11_as_2 cv_X11_126 sh_0 (c_noEye _) ⟨by decide, by decide⟩ rfl rfl (Nat.le_of_ble_eq_true rfl) ?_
  refine gq_if_ne (pc := 5) 18 dX11_as_5 (by decide) (fun h_5 => ?_) (fun h_5 => ?_)
  · exact absurd (p_nt_0.mpr (p_in_E he hj (by omega) e2)) h_5
  · refine gq_iload_n (pc := 8) dX11_as_8 rfl ?_
    refine gq_iconst (pc := 9) dX11_as_9 kc_0 ?_
    refine gq_bipush (pc := 10) dX11_as_10 kb_6 ?_
    refine gq_rS3i (pc := 12) dX11_as_12 cs_X11_105 (c_outside _ _ _) ⟨by decide, by decide⟩ (Nat.le_of_ble_eq_true rfl) ?_
    refine gq_if_eq (pc := 15) 24 dX11_as_15 (by decide) (fun h_15 => ?_) (fun h_15 => ?_)
    · refine gq_aload_n (pc := 24) dX11_as_24 rfl ?_
      refine gq_getr (pc := 25) dX11_as_25 fl_X11_41_11 sh_0 rfl ?_
      refine gq_aload_n (pc := 28) dX11_as_28 rfl ?_
      refine gq_getr (pc := 29) dX11_as_29 fl_X11_60_11 sh_0 rfl ?_
      refine gq_getr (pc := 32) dX11_as_32 fl_X11_129_10 sh_25 rfl ?_
      refine gq_iload_n (pc := 35) dX11_as_35 rfl ?_
      refine kq_ald2 (pw := 25) (pc := 36) (by decide) dX11_as_36 he (by first | decide | omega) ?_
      refine gq_aald (pc := 37) dX11_as_37 sh_3 rfl ek rfl (by decide) ?_
      refine gq_iload_n (pc := 38) dX11_as_38 rfl ?_
      refine gq_rU1i (pc := 39) dX11_as_39 cu_X11_179_3 sh_7 (c_isOf_3_7 _) ⟨by decide, by decide⟩ rfl rfl (Nat.le_of_ble_eq_true rfl) ?_
      refine gq_if_ne (pc := 42) 51 dX11_as_42 (by decide) (fun h_42 => ?_) (fun h_42 => ?_)
      · refine gq_aload_n (pc := 51) dX11_as_51 rfl ?_
        refine gq_getr (pc := 52) dX11_as_52 fl_X11_60_11 sh_0 rfl ?_
        refine gq_getr (pc := 55) dX11_as_55 fl_X11_132_10 sh_25 rfl ?_
        refine gq_iload_n (pc := 58) dX11_as_58 rfl ?_
        refine kq_ald3 (pw := 25) (pc := 59) (by decide) dX11_as_59 he (by first | decide | omega) ?_
        exact gq_iret (pc := 60) rfl dX11_as_60 ⟨rfl, rfl⟩
      · exact absurd (p_b_0.mp h_42) (by rw [hq]; decide)
    · exact absurd (p_nt_0.mpr hv) h_15
set_option maxHeartbeats 1000000 in
theorem m_as_3_1 {e v : Int32} {j E : Nat} (he : e = nI j) (hj : j < E) (hE : E ≤ 8) (e2 : r 2 = nI E) (hv : ¬ p_in v 0 6 = 0) (ek : p_e r j 0 = nI 3) (hq : p_isk 3 v = true) : ge_N X ge_SH YX12_as 2 [.ref (ge_ad X.1 76), .int e, .int v] (ge_m g r f) (some (.int (p_e r j 1))) (ge_m g r f) := by
  refine gq_ofB (l := [(0, .ref (ge_ad X.1 76)), (1, .int e), (2, .int v)]) (by decide) (Nat.le_of_ble_eq_true rfl) rfl ?_
  have L0 : p_isk 0 v = true → ge_B X ge_SH YX12_as 2 (fun v2 g2 => v2 = (some (.int (p_e r j 1))) ∧ g2 = (ge_m g r f)) 32 [(3, .int 0), (0, .ref (ge_ad X.1 76)), (1, .int e), (2, .int v)] [] (ge_m g r f) := by
    intro hw
    refine gq_iload_n (pc := 32) dX12_as_32 rfl ?_
    refine gq_if_lt (pc := 33) 49 dX12_as_33 (by decide) (fun h_33 => ?_) (fun h_33 => ?_)
    · exact absurd h_33 (by decide)
    · refine gq_iload_n (pc := 36) dX12_as_36 rfl ?_
      refine gq_iload_n (pc := 37) dX12_as_37 rfl ?_
      refine gq_ic_eq (pc := 38) 49 dX12_as_38 (by decide) (fun h_38 => ?_) (fun h_38 => ?_)
      · refine gq_iload_n (pc := 49) dX12_as_49 rfl ?_
        refine gq_if_ge (pc := 50) 62 dX12_as_50 (by decide) (fun h_50 => ?_) (fun h_50 => ?_)
        · refine gq_aload_n (pc := 62) dX12_as_62 rfl ?_
          refine gq_iload_n (pc := 63) dX12_as_63 rfl ?_
          refine gq_iconst (pc := 64) dX12_as_64 kc_1 ?_
          refine gq_rV2i (pc := 65) dX12_as_65 cv_X12_69 sh_76 (k_its he kl_1 (by omega)) ⟨by decide, by decide⟩ rfl rfl (Nat.le_of_ble_eq_true rfl) ?_
          exact gq_iret (pc := 68) rfl dX12_as_68 ⟨rfl, rfl⟩
        · exact absurd h_50 (by decide)
      · refine gq_iload_n (pc := 41) dX12_as_41 rfl ?_
        refine gq_rS1i (pc := 42) dX12_as_42 cs_X12_93 (k_above _) ⟨by decide, by decide⟩ (Nat.le_of_ble_eq_true rfl) ?_
        refine gq_istore_n (pc := 45) (l' := [(3, _), (0, _), (1, _), (2, _)]) dX12_as_45 (by decide) rfl ?_
        refine gq_goto (pc := 46) 32 dX12_as_46 (by decide) ?_
        refine gq_sub [0, 1, 2, 3] rfl ?_
        exact absurd (by simp [p_isk] at hw; exact hw.symm) h_38
  have L3 : p_isk 3 v = true → ge_B X ge_SH YX12_as 2 (fun v2 g2 => v2 = (some (.int (p_e r j 1))) ∧ g2 = (ge_m g r f)) 32 [(3, .int 3), (0, .ref (ge_ad X.1 76)), (1, .int e), (2, .int v)] [] (ge_m g r f) := by
    intro hw
    refine gq_iload_n (pc := 32) dX12_as_32 rfl ?_
    refine gq_if_lt (pc := 33) 49 dX12_as_33 (by decide) (fun h_33 => ?_) (fun h_33 => ?_)
    · exact absurd h_33 (by decide)
    · refine gq_iload_n (pc := 36) dX12_as_36 rfl ?_
      refine gq_iload_n (pc := 37) dX12_as_37 rfl ?_
      refine gq_ic_eq (pc := 38) 49 dX12_as_38 (by decide) (fun h_38 => ?_) (fun h_38 => ?_)
      · refine gq_iload_n (pc := 49) dX12_as_49 rfl ?_
        refine gq_if_ge (pc := 50) 62 dX12_as_50 (by decide) (fun h_50 => ?_) (fun h_50 => ?_)
        · refine gq_aload_n (pc := 62) dX12_as_62 rfl ?_
          refine gq_iload_n (pc := 63) dX12_as_63 rfl ?_
          refine gq_iconst (pc := 64) dX12_as_64 kc_1 ?_
          refine gq_rV2i (pc := 65) dX12_as_65 cv_X12_69 sh_76 (k_its he kl_1 (by omega)) ⟨by decide, by decide⟩ rfl rfl (Nat.le_of_ble_eq_true rfl) ?_
          exact gq_iret (pc := 68) rfl dX12_as_68 ⟨rfl, rfl⟩
        · exact absurd h_50 (by decide)
      · refine gq_iload_n (pc := 41) dX12_as_41 rfl ?_
        refine gq_rS1i (pc := 42) dX12_as_42 cs_X12_93 (k_above _) ⟨by decide, by decide⟩ (Nat.le_of_ble_eq_true rfl) ?_
        refine gq_istore_n (pc := 45) (l' := [(3, _), (0, _), (1, _), (2, _)]) dX12_as_45 (by decide) rfl ?_
        refine gq_goto (pc := 46) 32 dX12_as_46 (by decide) ?_
        refine gq_sub [0, 1, 2, 3] rfl ?_
        exact L0 (by simp [p_isk] at hw ⊢; first | exact hw.resolve_left (fun q => h_38 q.symm) | (rcases hw with q | q; exact absurd q.symm h_38; exact q))
  refine gq_aload_n (pc := 0) dX12_as_0 rfl ?_
  refine gq_iload_n (pc := 1) dX12_as_1 rfl ?_
  refine gq_rV1i (pc := 2) dX12_as_2 cv_X12_66 sh_76 (k_isEye _) ⟨by decide, by decide⟩ rfl rfl (Nat.le_of_ble_eq_true rfl) ?_
  refine gq_if_eq (pc := 5) 18 dX12_as_5 (by decide) (fun h_5 => ?_) (fun h_5 => ?_)
  · exact absurd h_5 (p_in_E he hj (by omega) e2)
  · refine gq_iload_n (pc := 8) dX12_as_8 rfl ?_
    refine gq_iconst (pc := 9) dX12_as_9 kc_0 ?_
    refine gq_bipush (pc := 10) dX12_as_10 kb_6 ?_
    refine gq_rS3i (pc := 12) dX12_as_12 cs_X12_41 (k_in _ _ _) ⟨by decide, by decide⟩ (Nat.le_of_ble_eq_true rfl) ?_
    refine gq_if_ne (pc := 15) 25 dX12_as_15 (by decide) (fun h_15 => ?_) (fun h_15 => ?_)
    · refine gq_aload_n (pc := 25) dX12_as_25 rfl ?_
      refine gq_iload_n (pc := 26) dX12_as_26 rfl ?_
      refine gq_iconst (pc := 27) dX12_as_27 kc_0 ?_
      refine gq_rV2i (pc := 28) dX12_as_28 cv_X12_69 sh_76 (k_its he kl_0 (by omega)) ⟨by decide, by decide⟩ rfl rfl (Nat.le_of_ble_eq_true rfl) ?_
      refine gq_istore_n (pc := 31) (l' := [(3, _), (0, _), (1, _), (2, _)]) dX12_as_31 (by decide) rfl ?_
      refine gq_sub [0, 1, 2, 3] rfl ?_
      rw [ek]
      exact L3 hq
    · exact absurd h_15 hv
set_option maxHeartbeats 400000 in
theorem c_as_3_0 {e v : Int32} {j E : Nat} (he : e = nI j) (hj : j < E) (hE : E ≤ 8) (e2 : r 2 = nI E) (hv : ¬ p_in v 0 6 = 0) (ek : p_e r j 0 = nI 3) (hq : p_isk 3 v = false) : ge_N X ge_SH YX11_as 4 [.ref (ge_ad X.1 0), .int e, .int v] (ge_k g 25 r x hb) (some (.int (-1000000000 - 5))) (ge_k (ge_up g 75 5 (g 75 5 + 1)) 25 r x hb) := by
  refine gq_ofB (l := [(0, .ref (ge_ad X.1 0)), (1, .int e), (2, .int v)]) (by decide) (Nat.le_of_ble_eq_true rfl) rfl ?_
  refine gq_aload_n (pc := 0) dX11_as_0 rfl ?_
  refine gq_iload_n (pc := 1) dX11_as_1 rfl ?_
  refine gq_rV1i (pc := 2) dX11_as_2 cv_X11_126 sh_0 (c_noEye _) ⟨by decide, by decide⟩ rfl rfl (Nat.le_of_ble_eq_true rfl) ?_
  refine gq_if_ne (pc := 5) 18 dX11_as_5 (by decide) (fun h_5 => ?_) (fun h_5 => ?_)
  · exact absurd (p_nt_0.mpr (p_in_E he hj (by omega) e2)) h_5
  · refine gq_iload_n (pc := 8) dX11_as_8 rfl ?_
    refine gq_iconst (pc := 9) dX11_as_9 kc_0 ?_
    refine gq_bipush (pc := 10) dX11_as_10 kb_6 ?_
    refine gq_rS3i (pc := 12) dX11_as_12 cs_X11_105 (c_outside _ _ _) ⟨by decide, by decide⟩ (Nat.le_of_ble_eq_true rfl) ?_
    refine gq_if_eq (pc := 15) 24 dX11_as_15 (by decide) (fun h_15 => ?_) (fun h_15 => ?_)
    · refine gq_aload_n (pc := 24) dX11_as_24 rfl ?_
      refine gq_getr (pc := 25) dX11_as_25 fl_X11_41_11 sh_0 rfl ?_
      refine gq_aload_n (pc := 28) dX11_as_28 rfl ?_
      refine gq_getr (pc := 29) dX11_as_29 fl_X11_60_11 sh_0 rfl ?_
      refine gq_getr (pc := 32) dX11_as_32 fl_X11_129_10 sh_25 rfl ?_
      refine gq_iload_n (pc := 35) dX11_as_35 rfl ?_
      refine kq_ald2 (pw := 25) (pc := 36) (by decide) dX11_as_36 he (by first | decide | omega) ?_
      refine gq_aald (pc := 37) dX11_as_37 sh_3 rfl ek rfl (by decide) ?_
      refine gq_iload_n (pc := 38) dX11_as_38 rfl ?_
      refine gq_rU1i (pc := 39) dX11_as_39 cu_X11_179_3 sh_7 (c_isOf_3_7 _) ⟨by decide, by decide⟩ rfl rfl (Nat.le_of_ble_eq_true rfl) ?_
      refine gq_if_ne (pc := 42) 51 dX11_as_42 (by decide) (fun h_42 => ?_) (fun h_42 => ?_)
      · exact absurd (p_b_n.mp h_42) (by rw [hq]; decide)
      · refine gq_aload_n (pc := 45) dX11_as_45 rfl ?_
        refine gq_iconst (pc := 46) dX11_as_46 kc_5 ?_
        refine gq_rV1i (pc := 47) dX11_as_47 cv_X11_109 sh_0 (c_error kl_5 (by decide)) ⟨by decide, by decide⟩ rfl rfl (Nat.le_of_ble_eq_true rfl) ?_
        exact gq_iret (pc := 50) rfl dX11_as_50 ⟨rfl, rfl⟩
    · exact absurd (p_nt_0.mpr hv) h_15
set_option maxHeartbeats 1000000 in
theorem m_as_3_0 {e v : Int32} {j E : Nat} (he : e = nI j) (hj : j < E) (hE : E ≤ 8) (e2 : r 2 = nI E) (hv : ¬ p_in v 0 6 = 0) (ek : p_e r j 0 = nI 3) (hq : p_isk 3 v = false) : ge_N X ge_SH YX12_as 2 [.ref (ge_ad X.1 76), .int e, .int v] (ge_m g r f) (some (.int (-1000000005))) (ge_m (ge_up g 81 5 (g 81 5 + 1)) r f) := by
  refine gq_ofB (l := [(0, .ref (ge_ad X.1 76)), (1, .int e), (2, .int v)]) (by decide) (Nat.le_of_ble_eq_true rfl) rfl ?_
  have Lm1 : ge_B X ge_SH YX12_as 2 (fun v2 g2 => v2 = (some (.int (-1000000005))) ∧ g2 = (ge_m (ge_up g 81 5 (g 81 5 + 1)) r f)) 32 [(3, .int (-1)), (0, .ref (ge_ad X.1 76)), (1, .int e), (2, .int v)] [] (ge_m g r f) := by
    refine gq_iload_n (pc := 32) dX12_as_32 rfl ?_
    refine gq_if_lt (pc := 33) 49 dX12_as_33 (by decide) (fun h_33 => ?_) (fun h_33 => ?_)
    · refine gq_iload_n (pc := 49) dX12_as_49 rfl ?_
      refine gq_if_ge (pc := 50) 62 dX12_as_50 (by decide) (fun h_50 => ?_) (fun h_50 => ?_)
      · exact absurd h_50 (by decide)
      · refine gq_aload_n (pc := 53) dX12_as_53 rfl ?_
        refine gq_ldc (pc := 54) dX12_as_54 kn_X12_96 ?_
        refine gq_rV1i (pc := 56) dX12_as_56 cv_X12_54 sh_76 (k_errs (j := 5) (by decide) (by decide)) ⟨by decide, by decide⟩ rfl rfl (Nat.le_of_ble_eq_true rfl) ?_
        refine gq_goto (pc := 59) 68 dX12_as_59 (by decide) ?_
        exact gq_iret (pc := 68) rfl dX12_as_68 ⟨rfl, rfl⟩
    · exact absurd h_33 (by decide)
  have L0 : p_isk 0 v = false → ge_B X ge_SH YX12_as 2 (fun v2 g2 => v2 = (some (.int (-1000000005))) ∧ g2 = (ge_m (ge_up g 81 5 (g 81 5 + 1)) r f)) 32 [(3, .int 0), (0, .ref (ge_ad X.1 76)), (1, .int e), (2, .int v)] [] (ge_m g r f) := by
    intro hw
    have h0 : ¬ v = 0 := by intro q; rw [q] at hw; revert hw; decide
    refine gq_iload_n (pc := 32) dX12_as_32 rfl ?_
    refine gq_if_lt (pc := 33) 49 dX12_as_33 (by decide) (fun h_33 => ?_) (fun h_33 => ?_)
    · exact absurd h_33 (by decide)
    · refine gq_iload_n (pc := 36) dX12_as_36 rfl ?_
      refine gq_iload_n (pc := 37) dX12_as_37 rfl ?_
      refine gq_ic_eq (pc := 38) 49 dX12_as_38 (by decide) (fun h_38 => ?_) (fun h_38 => ?_)
      · exact absurd h_38.symm h0
      · refine gq_iload_n (pc := 41) dX12_as_41 rfl ?_
        refine gq_rS1i (pc := 42) dX12_as_42 cs_X12_93 (k_above _) ⟨by decide, by decide⟩ (Nat.le_of_ble_eq_true rfl) ?_
        refine gq_istore_n (pc := 45) (l' := [(3, _), (0, _), (1, _), (2, _)]) dX12_as_45 (by decide) rfl ?_
        refine gq_goto (pc := 46) 32 dX12_as_46 (by decide) ?_
        refine gq_sub [0, 1, 2, 3] rfl ?_
        exact Lm1
  have L3 : p_isk 3 v = false → ge_B X ge_SH YX12_as 2 (fun v2 g2 => v2 = (some (.int (-1000000005))) ∧ g2 = (ge_m (ge_up g 81 5 (g 81 5 + 1)) r f)) 32 [(3, .int 3), (0, .ref (ge_ad X.1 76)), (1, .int e), (2, .int v)] [] (ge_m g r f) := by
    intro hw
    have h0 : ¬ v = 3 := by intro q; rw [q] at hw; revert hw; decide
    refine gq_iload_n (pc := 32) dX12_as_32 rfl ?_
    refine gq_if_lt (pc := 33) 49 dX12_as_33 (by decide) (fun h_33 => ?_) (fun h_33 => ?_)
    · exact absurd h_33 (by decide)
    · refine gq_iload_n (pc := 36) dX12_as_36 rfl ?_
      refine gq_iload_n (pc := 37) dX12_as_37 rfl ?_
      refine gq_ic_eq (pc := 38) 49 dX12_as_38 (by decide) (fun h_38 => ?_) (fun h_38 => ?_)
      · exact absurd h_38.symm h0
      · refine gq_iload_n (pc := 41) dX12_as_41 rfl ?_
        refine gq_rS1i (pc := 42) dX12_as_42 cs_X12_93 (k_above _) ⟨by decide, by decide⟩ (Nat.le_of_ble_eq_true rfl) ?_
        refine gq_istore_n (pc := 45) (l' := [(3, _), (0, _), (1, _), (2, _)]) dX12_as_45 (by decide) rfl ?_
        refine gq_goto (pc := 46) 32 dX12_as_46 (by decide) ?_
        refine gq_sub [0, 1, 2, 3] rfl ?_
        exact L0 (by simp [p_isk] at hw ⊢; simp [hw])
  refine gq_aload_n (pc := 0) dX12_as_0 rfl ?_
  refine gq_iload_n (pc := 1) dX12_as_1 rfl ?_
  refine gq_rV1i (pc := 2) dX12_as_2 cv_X12_66 sh_76 (k_isEye _) ⟨by decide, by decide⟩ rfl rfl (Nat.le_of_ble_eq_true rfl) ?_
  refine gq_if_eq (pc := 5) 18 dX12_as_5 (by decide) (fun h_5 => ?_) (fun h_5 => ?_)
  · exact absurd h_5 (p_in_E he hj (by omega) e2)
  · refine gq_iload_n (pc := 8) dX12_as_8 rfl ?_
    refine gq_iconst (pc := 9) dX12_as_9 kc_0 ?_
    refine gq_bipush (pc := 10) dX12_as_10 kb_6 ?_
    refine gq_rS3i (pc := 12) dX12_as_12 cs_X12_41 (k_in _ _ _) ⟨by decide, by decide⟩ (Nat.le_of_ble_eq_true rfl) ?_
    refine gq_if_ne (pc := 15) 25 dX12_as_15 (by decide) (fun h_15 => ?_) (fun h_15 => ?_)
    · refine gq_aload_n (pc := 25) dX12_as_25 rfl ?_
      refine gq_iload_n (pc := 26) dX12_as_26 rfl ?_
      refine gq_iconst (pc := 27) dX12_as_27 kc_0 ?_
      refine gq_rV2i (pc := 28) dX12_as_28 cv_X12_69 sh_76 (k_its he kl_0 (by omega)) ⟨by decide, by decide⟩ rfl rfl (Nat.le_of_ble_eq_true rfl) ?_
      refine gq_istore_n (pc := 31) (l' := [(3, _), (0, _), (1, _), (2, _)]) dX12_as_31 (by decide) rfl ?_
      refine gq_sub [0, 1, 2, 3] rfl ?_
      rw [ek]
      exact L3 hq
    · exact absurd h_15 hv
set_option maxHeartbeats 400000 in
theorem c_as_4_1 {e v : Int32} {j E : Nat} (he : e = nI j) (hj : j < E) (hE : E ≤ 8) (e2 : r 2 = nI E) (hv : ¬ p_in v 0 6 = 0) (ek : p_e r j 0 = nI 4) (hq : p_isk 4 v = true) : ge_N X ge_SH YX11_as 4 [.ref (ge_ad X.1 0), .int e, .int v] (ge_k g 25 r x hb) (some (.int (p_e r j 1))) (ge_k g 25 r x hb) := by
  refine gq_ofB (l := [(0, .ref (ge_ad X.1 0)), (1, .int e), (2, .int v)]) (by decide) (Nat.le_of_ble_eq_true rfl) rfl ?_
  refine gq_aload_n (pc := 0) dX11_as_0 rfl ?_
  refine gq_iload_n (pc := 1) dX11_as_1 rfl ?_
  refine gq_rV1i (pc := 2) dX11_as_2 cv_X11_126 sh_0 (c_noEye _) ⟨by decide, by decide⟩ rfl rfl (Nat.le_of_ble_eq_true rfl) ?_
  refine gq_if_ne (pc := 5) 18 dX11_as_5 (by decide) (fun h_5 => ?_) (fun h_5 => ?_)
  · exact absurd (p_nt_0.mpr (p_in_E he hj (by omega) e2)) h_5
  · refine gq_iload_n (pc := 8) dX11_as_8 rfl ?_
    refine gq_iconst (pc := 9) dX11_as_9 kc_0 ?_
    refine gq_bipush (pc := 10) dX11_as_10 kb_6 ?_
    refine gq_rS3i (pc := 12) dX11_as_12 cs_X11_105 (c_outside _ _ _) ⟨by decide, by decide⟩ (Nat.le_of_ble_eq_true rfl) ?_
    refine gq_if_eq (pc := 15) 24 dX11_as_15 (by decide) (fun h_15 => ?_) (fun h_15 => ?_)
    · refine gq_aload_n (pc := 24) dX11_as_24 rfl ?_
      refine gq_getr (pc := 25) dX11_as_25 fl_X11_41_11 sh_0 rfl ?_
      refine gq_aload_n (pc := 28) dX11_as_28 rfl ?_
      refine gq_getr (pc := 29) dX11_as_29 fl_X11_60_11 sh_0 rfl ?_
      refine gq_getr (pc := 32) dX11_as_32 fl_X11_129_10 sh_25 rfl ?_
      refine gq_iload_n (pc := 35) dX11_as_35 rfl ?_
      refine kq_ald2 (pw := 25) (pc := 36) (by decide) dX11_as_36 he (by first | decide | omega) ?_
      refine gq_aald (pc := 37) dX11_as_37 sh_3 rfl ek rfl (by decide) ?_
      refine gq_iload_n (pc := 38) dX11_as_38 rfl ?_
      refine gq_rU1i (pc := 39) dX11_as_39 cu_X11_179_0 sh_8 (c_isOf_4_8 _) ⟨by decide, by decide⟩ rfl rfl (Nat.le_of_ble_eq_true rfl) ?_
      refine gq_if_ne (pc := 42) 51 dX11_as_42 (by decide) (fun h_42 => ?_) (fun h_42 => ?_)
      · refine gq_aload_n (pc := 51) dX11_as_51 rfl ?_
        refine gq_getr (pc := 52) dX11_as_52 fl_X11_60_11 sh_0 rfl ?_
        refine gq_getr (pc := 55) dX11_as_55 fl_X11_132_10 sh_25 rfl ?_
        refine gq_iload_n (pc := 58) dX11_as_58 rfl ?_
        refine kq_ald3 (pw := 25) (pc := 59) (by decide) dX11_as_59 he (by first | decide | omega) ?_
        exact gq_iret (pc := 60) rfl dX11_as_60 ⟨rfl, rfl⟩
      · exact absurd (p_b_0.mp h_42) (by rw [hq]; decide)
    · exact absurd (p_nt_0.mpr hv) h_15
set_option maxHeartbeats 1000000 in
theorem m_as_4_1 {e v : Int32} {j E : Nat} (he : e = nI j) (hj : j < E) (hE : E ≤ 8) (e2 : r 2 = nI E) (hv : ¬ p_in v 0 6 = 0) (ek : p_e r j 0 = nI 4) (hq : p_isk 4 v = true) : ge_N X ge_SH YX12_as 2 [.ref (ge_ad X.1 76), .int e, .int v] (ge_m g r f) (some (.int (p_e r j 1))) (ge_m g r f) := by
  refine gq_ofB (l := [(0, .ref (ge_ad X.1 76)), (1, .int e), (2, .int v)]) (by decide) (Nat.le_of_ble_eq_true rfl) rfl ?_
  have L0 : p_isk 0 v = true → ge_B X ge_SH YX12_as 2 (fun v2 g2 => v2 = (some (.int (p_e r j 1))) ∧ g2 = (ge_m g r f)) 32 [(3, .int 0), (0, .ref (ge_ad X.1 76)), (1, .int e), (2, .int v)] [] (ge_m g r f) := by
    intro hw
    refine gq_iload_n (pc := 32) dX12_as_32 rfl ?_
    refine gq_if_lt (pc := 33) 49 dX12_as_33 (by decide) (fun h_33 => ?_) (fun h_33 => ?_)
    · exact absurd h_33 (by decide)
    · refine gq_iload_n (pc := 36) dX12_as_36 rfl ?_
      refine gq_iload_n (pc := 37) dX12_as_37 rfl ?_
      refine gq_ic_eq (pc := 38) 49 dX12_as_38 (by decide) (fun h_38 => ?_) (fun h_38 => ?_)
      · refine gq_iload_n (pc := 49) dX12_as_49 rfl ?_
        refine gq_if_ge (pc := 50) 62 dX12_as_50 (by decide) (fun h_50 => ?_) (fun h_50 => ?_)
        · refine gq_aload_n (pc := 62) dX12_as_62 rfl ?_
          refine gq_iload_n (pc := 63) dX12_as_63 rfl ?_
          refine gq_iconst (pc := 64) dX12_as_64 kc_1 ?_
          refine gq_rV2i (pc := 65) dX12_as_65 cv_X12_69 sh_76 (k_its he kl_1 (by omega)) ⟨by decide, by decide⟩ rfl rfl (Nat.le_of_ble_eq_true rfl) ?_
          exact gq_iret (pc := 68) rfl dX12_as_68 ⟨rfl, rfl⟩
        · exact absurd h_50 (by decide)
      · refine gq_iload_n (pc := 41) dX12_as_41 rfl ?_
        refine gq_rS1i (pc := 42) dX12_as_42 cs_X12_93 (k_above _) ⟨by decide, by decide⟩ (Nat.le_of_ble_eq_true rfl) ?_
        refine gq_istore_n (pc := 45) (l' := [(3, _), (0, _), (1, _), (2, _)]) dX12_as_45 (by decide) rfl ?_
        refine gq_goto (pc := 46) 32 dX12_as_46 (by decide) ?_
        refine gq_sub [0, 1, 2, 3] rfl ?_
        exact absurd (by simp [p_isk] at hw; exact hw.symm) h_38
  have L1 : p_isk 1 v = true → ge_B X ge_SH YX12_as 2 (fun v2 g2 => v2 = (some (.int (p_e r j 1))) ∧ g2 = (ge_m g r f)) 32 [(3, .int 1), (0, .ref (ge_ad X.1 76)), (1, .int e), (2, .int v)] [] (ge_m g r f) := by
    intro hw
    refine gq_iload_n (pc := 32) dX12_as_32 rfl ?_
    refine gq_if_lt (pc := 33) 49 dX12_as_33 (by decide) (fun h_33 => ?_) (fun h_33 => ?_)
    · exact absurd h_33 (by decide)
    · refine gq_iload_n (pc := 36) dX12_as_36 rfl ?_
      refine gq_iload_n (pc := 37) dX12_as_37 rfl ?_
      refine gq_ic_eq (pc := 38) 49 dX12_as_38 (by decide) (fun h_38 => ?_) (fun h_38 => ?_)
      · refine gq_iload_n (pc := 49) dX12_as_49 rfl ?_
        refine gq_if_ge (pc := 50) 62 dX12_as_50 (by decide) (fun h_50 => ?_) (fun h_50 => ?_)
        · refine gq_aload_n (pc := 62) dX12_as_62 rfl ?_
          refine gq_iload_n (pc := 63) dX12_as_63 rfl ?_
          refine gq_iconst (pc := 64) dX12_as_64 kc_1 ?_
          refine gq_rV2i (pc := 65) dX12_as_65 cv_X12_69 sh_76 (k_its he kl_1 (by omega)) ⟨by decide, by decide⟩ rfl rfl (Nat.le_of_ble_eq_true rfl) ?_
          exact gq_iret (pc := 68) rfl dX12_as_68 ⟨rfl, rfl⟩
        · exact absurd h_50 (by decide)
      · refine gq_iload_n (pc := 41) dX12_as_41 rfl ?_
        refine gq_rS1i (pc := 42) dX12_as_42 cs_X12_93 (k_above _) ⟨by decide, by decide⟩ (Nat.le_of_ble_eq_true rfl) ?_
        refine gq_istore_n (pc := 45) (l' := [(3, _), (0, _), (1, _), (2, _)]) dX12_as_45 (by decide) rfl ?_
        refine gq_goto (pc := 46) 32 dX12_as_46 (by decide) ?_
        refine gq_sub [0, 1, 2, 3] rfl ?_
        exact L0 (by simp [p_isk] at hw ⊢; first | exact hw.resolve_left (fun q => h_38 q.symm) | (rcases hw with q | q; exact absurd q.symm h_38; exact q))
  have L4 : p_isk 4 v = true → ge_B X ge_SH YX12_as 2 (fun v2 g2 => v2 = (some (.int (p_e r j 1))) ∧ g2 = (ge_m g r f)) 32 [(3, .int 4), (0, .ref (ge_ad X.1 76)), (1, .int e), (2, .int v)] [] (ge_m g r f) := by
    intro hw
    refine gq_iload_n (pc := 32) dX12_as_32 rfl ?_
    refine gq_if_lt (pc := 33) 49 dX12_as_33 (by decide) (fun h_33 => ?_) (fun h_33 => ?_)
    · exact absurd h_33 (by decide)
    · refine gq_iload_n (pc := 36) dX12_as_36 rfl ?_
      refine gq_iload_n (pc := 37) dX12_as_37 rfl ?_
      refine gq_ic_eq (pc := 38) 49 dX12_as_38 (by decide) (fun h_38 => ?_) (fun h_38 => ?_)
      · refine gq_iload_n (pc := 49) dX12_as_49 rfl ?_
        refine gq_if_ge (pc := 50) 62 dX12_as_50 (by decide) (fun h_50 => ?_) (fun h_50 => ?_)
        · refine gq_aload_n (pc := 62) dX12_as_62 rfl ?_
          refine gq_iload_n (pc := 63) dX12_as_63 rfl ?_
          refine gq_iconst (pc := 64) dX12_as_64 kc_1 ?_
          refine gq_rV2i (pc := 65) dX12_as_65 cv_X12_69 sh_76 (k_its he kl_1 (by omega)) ⟨by decide, by decide⟩ rfl rfl (Nat.le_of_ble_eq_true rfl) ?_
          exact gq_iret (pc := 68) rfl dX12_as_68 ⟨rfl, rfl⟩
        · exact absurd h_50 (by decide)
      · refine gq_iload_n (pc := 41) dX12_as_41 rfl ?_
        refine gq_rS1i (pc := 42) dX12_as_42 cs_X12_93 (k_above _) ⟨by decide, by decide⟩ (Nat.le_of_ble_eq_true rfl) ?_
        refine gq_istore_n (pc := 45) (l' := [(3, _), (0, _), (1, _), (2, _)]) dX12_as_45 (by decide) rfl ?_
        refine gq_goto (pc := 46) 32 dX12_as_46 (by decide) ?_
        refine gq_sub [0, 1, 2, 3] rfl ?_
        exact L1 (by simp [p_isk] at hw ⊢; first | exact hw.resolve_left (fun q => h_38 q.symm) | (rcases hw with q | q; exact absurd q.symm h_38; exact q))
  refine gq_aload_n (pc := 0) dX12_as_0 rfl ?_
  refine gq_iload_n (pc := 1) dX12_as_1 rfl ?_
  refine gq_rV1i (pc := 2) dX12_as_2 cv_X12_66 sh_76 (k_isEye _) ⟨by decide, by decide⟩ rfl rfl (Nat.le_of_ble_eq_true rfl) ?_
  refine gq_if_eq (pc := 5) 18 dX12_as_5 (by decide) (fun h_5 => ?_) (fun h_5 => ?_)
  · exact absurd h_5 (p_in_E he hj (by omega) e2)
  · refine gq_iload_n (pc := 8) dX12_as_8 rfl ?_
    refine gq_iconst (pc := 9) dX12_as_9 kc_0 ?_
    refine gq_bipush (pc := 10) dX12_as_10 kb_6 ?_
    refine gq_rS3i (pc := 12) dX12_as_12 cs_X12_41 (k_in _ _ _) ⟨by decide, by decide⟩ (Nat.le_of_ble_eq_true rfl) ?_
    refine gq_if_ne (pc := 15) 25 dX12_as_15 (by decide) (fun h_15 => ?_) (fun h_15 => ?_)
    · refine gq_aload_n (pc := 25) dX12_as_25 rfl ?_
      refine gq_iload_n (pc := 26) dX12_as_26 rfl ?_
      refine gq_iconst (pc := 27) dX12_as_27 kc_0 ?_
      refine gq_rV2i (pc := 28) dX12_as_28 cv_X12_69 sh_76 (k_its he kl_0 (by omega)) ⟨by decide, by decide⟩ rfl rfl (Nat.le_of_ble_eq_true rfl) ?_
      refine gq_istore_n (pc := 31) (l' := [(3, _), (0, _), (1, _), (2, _)]) dX12_as_31 (by decide) rfl ?_
      refine gq_sub [0, 1, 2, 3] rfl ?_
      rw [ek]
      exact L4 hq
    · exact absurd h_15 hv
set_option maxHeartbeats 400000 in
theorem c_as_4_0 {e v : Int32} {j E : Nat} (he : e = nI j) (hj : j < E) (hE : E ≤ 8) (e2 : r 2 = nI E) (hv : ¬ p_in v 0 6 = 0) (ek : p_e r j 0 = nI 4) (hq : p_isk 4 v = false) : ge_N X ge_SH YX11_as 4 [.ref (ge_ad X.1 0), .int e, .int v] (ge_k g 25 r x hb) (some (.int (-1000000000 - 5))) (ge_k (ge_up g 75 5 (g 75 5 + 1)) 25 r x hb) := by
  refine gq_ofB (l := [(0, .ref (ge_ad X.1 0)), (1, .int e), (2, .int v)]) (by decide) (Nat.le_of_ble_eq_true rfl) rfl ?_
  refine gq_aload_n (pc := 0) dX11_as_0 rfl ?_
  refine gq_iload_n (pc := 1) dX11_as_1 rfl ?_
  refine gq_rV1i (pc := 2) dX11_as_2 cv_X11_126 sh_0 (c_noEye _) ⟨by decide, by decide⟩ rfl rfl (Nat.le_of_ble_eq_true rfl) ?_
  refine gq_if_ne (pc := 5) 18 dX11_as_5 (by decide) (fun h_5 => ?_) (fun h_5 => ?_)
  · exact absurd (p_nt_0.mpr (p_in_E he hj (by omega) e2)) h_5
  · refine gq_iload_n (pc := 8) dX11_as_8 rfl ?_
    refine gq_iconst (pc := 9) dX11_as_9 kc_0 ?_
    refine gq_bipush (pc := 10) dX11_as_10 kb_6 ?_
    refine gq_rS3i (pc := 12) dX11_as_12 cs_X11_105 (c_outside _ _ _) ⟨by decide, by decide⟩ (Nat.le_of_ble_eq_true rfl) ?_
    refine gq_if_eq (pc := 15) 24 dX11_as_15 (by decide) (fun h_15 => ?_) (fun h_15 => ?_)
    · refine gq_aload_n (pc := 24) dX11_as_24 rfl ?_
      refine gq_getr (pc := 25) dX11_as_25 fl_X11_41_11 sh_0 rfl ?_
      refine gq_aload_n (pc := 28) dX11_as_28 rfl ?_
      refine gq_getr (pc := 29) dX11_as_29 fl_X11_60_11 sh_0 rfl ?_
      refine gq_getr (pc := 32) dX11_as_32 fl_X11_129_10 sh_25 rfl ?_
      refine gq_iload_n (pc := 35) dX11_as_35 rfl ?_
      refine kq_ald2 (pw := 25) (pc := 36) (by decide) dX11_as_36 he (by first | decide | omega) ?_
      refine gq_aald (pc := 37) dX11_as_37 sh_3 rfl ek rfl (by decide) ?_
      refine gq_iload_n (pc := 38) dX11_as_38 rfl ?_
      refine gq_rU1i (pc := 39) dX11_as_39 cu_X11_179_0 sh_8 (c_isOf_4_8 _) ⟨by decide, by decide⟩ rfl rfl (Nat.le_of_ble_eq_true rfl) ?_
      refine gq_if_ne (pc := 42) 51 dX11_as_42 (by decide) (fun h_42 => ?_) (fun h_42 => ?_)
      · exact absurd (p_b_n.mp h_42) (by rw [hq]; decide)
      · refine gq_aload_n (pc := 45) dX11_as_45 rfl ?_
        refine gq_iconst (pc := 46) dX11_as_46 kc_5 ?_
        refine gq_rV1i (pc := 47) dX11_as_47 cv_X11_109 sh_0 (c_error kl_5 (by decide)) ⟨by decide, by decide⟩ rfl rfl (Nat.le_of_ble_eq_true rfl) ?_
        exact gq_iret (pc := 50) rfl dX11_as_50 ⟨rfl, rfl⟩
    · exact absurd (p_nt_0.mpr hv) h_15
set_option maxHeartbeats 1000000 in
theorem m_as_4_0 {e v : Int32} {j E : Nat} (he : e = nI j) (hj : j < E) (hE : E ≤ 8) (e2 : r 2 = nI E) (hv : ¬ p_in v 0 6 = 0) (ek : p_e r j 0 = nI 4) (hq : p_isk 4 v = false) : ge_N X ge_SH YX12_as 2 [.ref (ge_ad X.1 76), .int e, .int v] (ge_m g r f) (some (.int (-1000000005))) (ge_m (ge_up g 81 5 (g 81 5 + 1)) r f) := by
  refine gq_ofB (l := [(0, .ref (ge_ad X.1 76)), (1, .int e), (2, .int v)]) (by decide) (Nat.le_of_ble_eq_true rfl) rfl ?_
  have Lm1 : ge_B X ge_SH YX12_as 2 (fun v2 g2 => v2 = (some (.int (-1000000005))) ∧ g2 = (ge_m (ge_up g 81 5 (g 81 5 + 1)) r f)) 32 [(3, .int (-1)), (0, .ref (ge_ad X.1 76)), (1, .int e), (2, .int v)] [] (ge_m g r f) := by
    refine gq_iload_n (pc := 32) dX12_as_32 rfl ?_
    refine gq_if_lt (pc := 33) 49 dX12_as_33 (by decide) (fun h_33 => ?_) (fun h_33 => ?_)
    · refine gq_iload_n (pc := 49) dX12_as_49 rfl ?_
      refine gq_if_ge (pc := 50) 62 dX12_as_50 (by decide) (fun h_50 => ?_) (fun h_50 => ?_)
      · exact absurd h_50 (by decide)
      · refine gq_aload_n (pc := 53) dX12_as_53 rfl ?_
        refine gq_ldc (pc := 54) dX12_as_54 kn_X12_96 ?_
        refine gq_rV1i (pc := 56) dX12_as_56 cv_X12_54 sh_76 (k_errs (j := 5) (by decide) (by decide)) ⟨by decide, by decide⟩ rfl rfl (Nat.le_of_ble_eq_true rfl) ?_
        refine gq_goto (pc := 59) 68 dX12_as_59 (by decide) ?_
        exact gq_iret (pc := 68) rfl dX12_as_68 ⟨rfl, rfl⟩
    · exact absurd h_33 (by decide)
  have L0 : p_isk 0 v = false → ge_B X ge_SH YX12_as 2 (fun v2 g2 => v2 = (some (.int (-1000000005))) ∧ g2 = (ge_m (ge_up g 81 5 (g 81 5 + 1)) r f)) 32 [(3, .int 0), (0, .ref (ge_ad X.1 76)), (1, .int e), (2, .int v)] [] (ge_m g r f) := by
    intro hw
    have h0 : ¬ v = 0 := by intro q; rw [q] at hw; revert hw; decide
    refine gq_iload_n (pc := 32) dX12_as_32 rfl ?_
    refine gq_if_lt (pc := 33) 49 dX12_as_33 (by decide) (fun h_33 => ?_) (fun h_33 => ?_)
    · exact absurd h_33 (by decide)
    · refine gq_iload_n (pc := 36) dX12_as_36 rfl ?_
      refine gq_iload_n (pc := 37) dX12_as_37 rfl ?_
      refine gq_ic_eq (pc := 38) 49 dX12_as_38 (by decide) (fun h_38 => ?_) (fun h_38 => ?_)
      · exact absurd h_38.symm h0
      · refine gq_iload_n (pc := 41) dX12_as_41 rfl ?_
        refine gq_rS1i (pc := 42) dX12_as_42 cs_X12_93 (k_above _) ⟨by decide, by decide⟩ (Nat.le_of_ble_eq_true rfl) ?_
        refine gq_istore_n (pc := 45) (l' := [(3, _), (0, _), (1, _), (2, _)]) dX12_as_45 (by decide) rfl ?_
        refine gq_goto (pc := 46) 32 dX12_as_46 (by decide) ?_
        refine gq_sub [0, 1, 2, 3] rfl ?_
        exact Lm1
  have L1 : p_isk 1 v = false → ge_B X ge_SH YX12_as 2 (fun v2 g2 => v2 = (some (.int (-1000000005))) ∧ g2 = (ge_m (ge_up g 81 5 (g 81 5 + 1)) r f)) 32 [(3, .int 1), (0, .ref (ge_ad X.1 76)), (1, .int e), (2, .int v)] [] (ge_m g r f) := by
    intro hw
    have h0 : ¬ v = 1 := by intro q; rw [q] at hw; revert hw; decide
    refine gq_iload_n (pc := 32) dX12_as_32 rfl ?_
    refine gq_if_lt (pc := 33) 49 dX12_as_33 (by decide) (fun h_33 => ?_) (fun h_33 => ?_)
    · exact absurd h_33 (by decide)
    · refine gq_iload_n (pc := 36) dX12_as_36 rfl ?_
      refine gq_iload_n (pc := 37) dX12_as_37 rfl ?_
      refine gq_ic_eq (pc := 38) 49 dX12_as_38 (by decide) (fun h_38 => ?_) (fun h_38 => ?_)
      · exact absurd h_38.symm h0
      · refine gq_iload_n (pc := 41) dX12_as_41 rfl ?_
        refine gq_rS1i (pc := 42) dX12_as_42 cs_X12_93 (k_above _) ⟨by decide, by decide⟩ (Nat.le_of_ble_eq_true rfl) ?_
        refine gq_istore_n (pc := 45) (l' := [(3, _), (0, _), (1, _), (2, _)]) dX12_as_45 (by decide) rfl ?_
        refine gq_goto (pc := 46) 32 dX12_as_46 (by decide) ?_
        refine gq_sub [0, 1, 2, 3] rfl ?_
        exact L0 (by simp [p_isk] at hw ⊢; simp [hw])
  have L4 : p_isk 4 v = false → ge_B X ge_SH YX12_as 2 (fun v2 g2 => v2 = (some (.int (-1000000005))) ∧ g2 = (ge_m (ge_up g 81 5 (g 81 5 + 1)) r f)) 32 [(3, .int 4), (0, .ref (ge_ad X.1 76)), (1, .int e), (2, .int v)] [] (ge_m g r f) := by
    intro hw
    have h0 : ¬ v = 4 := by intro q; rw [q] at hw; revert hw; decide
    refine gq_iload_n (pc := 32) dX12_as_32 rfl ?_
    refine gq_if_lt (pc := 33) 49 dX12_as_33 (by decide) (fun h_33 => ?_) (fun h_33 => ?_)
    · exact absurd h_33 (by decide)
    · refine gq_iload_n (pc := 36) dX12_as_36 rfl ?_
      refine gq_iload_n (pc := 37) dX12_as_37 rfl ?_
      refine gq_ic_eq (pc := 38) 49 dX12_as_38 (by decide) (fun h_38 => ?_) (fun h_38 => ?_)
      · exact absurd h_38.symm h0
      · refine gq_iload_n (pc := 41) dX12_as_41 rfl ?_
        refine gq_rS1i (pc := 42) dX12_as_42 cs_X12_93 (k_above _) ⟨by decide, by decide⟩ (Nat.le_of_ble_eq_true rfl) ?_
        refine gq_istore_n (pc := 45) (l' := [(3, _), (0, _), (1, _), (2, _)]) dX12_as_45 (by decide) rfl ?_
        refine gq_goto (pc := 46) 32 dX12_as_46 (by decide) ?_
        refine gq_sub [0, 1, 2, 3] rfl ?_
        exact L1 (by simp [p_isk] at hw ⊢; simp [hw])
  refine gq_aload_n (pc := 0) dX12_as_0 rfl ?_
  refine gq_iload_n (pc := 1) dX12_as_1 rfl ?_
  refine gq_rV1i (pc := 2) dX12_as_2 cv_X12_66 sh_76 (k_isEye _) ⟨by decide, by decide⟩ rfl rfl (Nat.le_of_ble_eq_true rfl) ?_
  refine gq_if_eq (pc := 5) 18 dX12_as_5 (by decide) (fun h_5 => ?_) (fun h_5 => ?_)
  · exact absurd h_5 (p_in_E he hj (by omega) e2)
  · refine gq_iload_n (pc := 8) dX12_as_8 rfl ?_
    refine gq_iconst (pc := 9) dX12_as_9 kc_0 ?_
    refine gq_bipush (pc := 10) dX12_as_10 kb_6 ?_
    refine gq_rS3i (pc := 12) dX12_as_12 cs_X12_41 (k_in _ _ _) ⟨by decide, by decide⟩ (Nat.le_of_ble_eq_true rfl) ?_
    refine gq_if_ne (pc := 15) 25 dX12_as_15 (by decide) (fun h_15 => ?_) (fun h_15 => ?_)
    · refine gq_aload_n (pc := 25) dX12_as_25 rfl ?_
      refine gq_iload_n (pc := 26) dX12_as_26 rfl ?_
      refine gq_iconst (pc := 27) dX12_as_27 kc_0 ?_
      refine gq_rV2i (pc := 28) dX12_as_28 cv_X12_69 sh_76 (k_its he kl_0 (by omega)) ⟨by decide, by decide⟩ rfl rfl (Nat.le_of_ble_eq_true rfl) ?_
      refine gq_istore_n (pc := 31) (l' := [(3, _), (0, _), (1, _), (2, _)]) dX12_as_31 (by decide) rfl ?_
      refine gq_sub [0, 1, 2, 3] rfl ?_
      rw [ek]
      exact L4 hq
    · exact absurd h_15 hv
set_option maxHeartbeats 400000 in
theorem c_as_5_1 {e v : Int32} {j E : Nat} (he : e = nI j) (hj : j < E) (hE : E ≤ 8) (e2 : r 2 = nI E) (hv : ¬ p_in v 0 6 = 0) (ek : p_e r j 0 = nI 5) (hq : p_isk 5 v = true) : ge_N X ge_SH YX11_as 4 [.ref (ge_ad X.1 0), .int e, .int v] (ge_k g 25 r x hb) (some (.int (p_e r j 1))) (ge_k g 25 r x hb) := by
  refine gq_ofB (l := [(0, .ref (ge_ad X.1 0)), (1, .int e), (2, .int v)]) (by decide) (Nat.le_of_ble_eq_true rfl) rfl ?_
  refine gq_aload_n (pc := 0) dX11_as_0 rfl ?_
  refine gq_iload_n (pc := 1) dX11_as_1 rfl ?_
  refine gq_rV1i (pc := 2) dX11_as_2 cv_X11_126 sh_0 (c_noEye _) ⟨by decide, by decide⟩ rfl rfl (Nat.le_of_ble_eq_true rfl) ?_
  refine gq_if_ne (pc := 5) 18 dX11_as_5 (by decide) (fun h_5 => ?_) (fun h_5 => ?_)
  · exact absurd (p_nt_0.mpr (p_in_E he hj (by omega) e2)) h_5
  · refine gq_iload_n (pc := 8) dX11_as_8 rfl ?_
    refine gq_iconst (pc := 9) dX11_as_9 kc_0 ?_
    refine gq_bipush (pc := 10) dX11_as_10 kb_6 ?_
    refine gq_rS3i (pc := 12) dX11_as_12 cs_X11_105 (c_outside _ _ _) ⟨by decide, by decide⟩ (Nat.le_of_ble_eq_true rfl) ?_
    refine gq_if_eq (pc := 15) 24 dX11_as_15 (by decide) (fun h_15 => ?_) (fun h_15 => ?_)
    · refine gq_aload_n (pc := 24) dX11_as_24 rfl ?_
      refine gq_getr (pc := 25) dX11_as_25 fl_X11_41_11 sh_0 rfl ?_
      refine gq_aload_n (pc := 28) dX11_as_28 rfl ?_
      refine gq_getr (pc := 29) dX11_as_29 fl_X11_60_11 sh_0 rfl ?_
      refine gq_getr (pc := 32) dX11_as_32 fl_X11_129_10 sh_25 rfl ?_
      refine gq_iload_n (pc := 35) dX11_as_35 rfl ?_
      refine kq_ald2 (pw := 25) (pc := 36) (by decide) dX11_as_36 he (by first | decide | omega) ?_
      refine gq_aald (pc := 37) dX11_as_37 sh_3 rfl ek rfl (by decide) ?_
      refine gq_iload_n (pc := 38) dX11_as_38 rfl ?_
      refine gq_rU1i (pc := 39) dX11_as_39 cu_X11_179_8 sh_9 (c_isOf_5_9 _) ⟨by decide, by decide⟩ rfl rfl (Nat.le_of_ble_eq_true rfl) ?_
      refine gq_if_ne (pc := 42) 51 dX11_as_42 (by decide) (fun h_42 => ?_) (fun h_42 => ?_)
      · refine gq_aload_n (pc := 51) dX11_as_51 rfl ?_
        refine gq_getr (pc := 52) dX11_as_52 fl_X11_60_11 sh_0 rfl ?_
        refine gq_getr (pc := 55) dX11_as_55 fl_X11_132_10 sh_25 rfl ?_
        refine gq_iload_n (pc := 58) dX11_as_58 rfl ?_
        refine kq_ald3 (pw := 25) (pc := 59) (by decide) dX11_as_59 he (by first | decide | omega) ?_
        exact gq_iret (pc := 60) rfl dX11_as_60 ⟨rfl, rfl⟩
      · exact absurd (p_b_0.mp h_42) (by rw [hq]; decide)
    · exact absurd (p_nt_0.mpr hv) h_15
set_option maxHeartbeats 1000000 in
theorem m_as_5_1 {e v : Int32} {j E : Nat} (he : e = nI j) (hj : j < E) (hE : E ≤ 8) (e2 : r 2 = nI E) (hv : ¬ p_in v 0 6 = 0) (ek : p_e r j 0 = nI 5) (hq : p_isk 5 v = true) : ge_N X ge_SH YX12_as 2 [.ref (ge_ad X.1 76), .int e, .int v] (ge_m g r f) (some (.int (p_e r j 1))) (ge_m g r f) := by
  refine gq_ofB (l := [(0, .ref (ge_ad X.1 76)), (1, .int e), (2, .int v)]) (by decide) (Nat.le_of_ble_eq_true rfl) rfl ?_
  have L0 : p_isk 0 v = true → ge_B X ge_SH YX12_as 2 (fun v2 g2 => v2 = (some (.int (p_e r j 1))) ∧ g2 = (ge_m g r f)) 32 [(3, .int 0), (0, .ref (ge_ad X.1 76)), (1, .int e), (2, .int v)] [] (ge_m g r f) := by
    intro hw
    refine gq_iload_n (pc := 32) dX12_as_32 rfl ?_
    refine gq_if_lt (pc := 33) 49 dX12_as_33 (by decide) (fun h_33 => ?_) (fun h_33 => ?_)
    · exact absurd h_33 (by decide)
    · refine gq_iload_n (pc := 36) dX12_as_36 rfl ?_
      refine gq_iload_n (pc := 37) dX12_as_37 rfl ?_
      refine gq_ic_eq (pc := 38) 49 dX12_as_38 (by decide) (fun h_38 => ?_) (fun h_38 => ?_)
      · refine gq_iload_n (pc := 49) dX12_as_49 rfl ?_
        refine gq_if_ge (pc := 50) 62 dX12_as_50 (by decide) (fun h_50 => ?_) (fun h_50 => ?_)
        · refine gq_aload_n (pc := 62) dX12_as_62 rfl ?_
          refine gq_iload_n (pc := 63) dX12_as_63 rfl ?_
          refine gq_iconst (pc := 64) dX12_as_64 kc_1 ?_
          refine gq_rV2i (pc := 65) dX12_as_65 cv_X12_69 sh_76 (k_its he kl_1 (by omega)) ⟨by decide, by decide⟩ rfl rfl (Nat.le_of_ble_eq_true rfl) ?_
          exact gq_iret (pc := 68) rfl dX12_as_68 ⟨rfl, rfl⟩
        · exact absurd h_50 (by decide)
      · refine gq_iload_n (pc := 41) dX12_as_41 rfl ?_
        refine gq_rS1i (pc := 42) dX12_as_42 cs_X12_93 (k_above _) ⟨by decide, by decide⟩ (Nat.le_of_ble_eq_true rfl) ?_
        refine gq_istore_n (pc := 45) (l' := [(3, _), (0, _), (1, _), (2, _)]) dX12_as_45 (by decide) rfl ?_
        refine gq_goto (pc := 46) 32 dX12_as_46 (by decide) ?_
        refine gq_sub [0, 1, 2, 3] rfl ?_
        exact absurd (by simp [p_isk] at hw; exact hw.symm) h_38
  have L2 : p_isk 2 v = true → ge_B X ge_SH YX12_as 2 (fun v2 g2 => v2 = (some (.int (p_e r j 1))) ∧ g2 = (ge_m g r f)) 32 [(3, .int 2), (0, .ref (ge_ad X.1 76)), (1, .int e), (2, .int v)] [] (ge_m g r f) := by
    intro hw
    refine gq_iload_n (pc := 32) dX12_as_32 rfl ?_
    refine gq_if_lt (pc := 33) 49 dX12_as_33 (by decide) (fun h_33 => ?_) (fun h_33 => ?_)
    · exact absurd h_33 (by decide)
    · refine gq_iload_n (pc := 36) dX12_as_36 rfl ?_
      refine gq_iload_n (pc := 37) dX12_as_37 rfl ?_
      refine gq_ic_eq (pc := 38) 49 dX12_as_38 (by decide) (fun h_38 => ?_) (fun h_38 => ?_)
      · refine gq_iload_n (pc := 49) dX12_as_49 rfl ?_
        refine gq_if_ge (pc := 50) 62 dX12_as_50 (by decide) (fun h_50 => ?_) (fun h_50 => ?_)
        · refine gq_aload_n (pc := 62) dX12_as_62 rfl ?_
          refine gq_iload_n (pc := 63) dX12_as_63 rfl ?_
          refine gq_iconst (pc := 64) dX12_as_64 kc_1 ?_
          refine gq_rV2i (pc := 65) dX12_as_65 cv_X12_69 sh_76 (k_its he kl_1 (by omega)) ⟨by decide, by decide⟩ rfl rfl (Nat.le_of_ble_eq_true rfl) ?_
          exact gq_iret (pc := 68) rfl dX12_as_68 ⟨rfl, rfl⟩
        · exact absurd h_50 (by decide)
      · refine gq_iload_n (pc := 41) dX12_as_41 rfl ?_
        refine gq_rS1i (pc := 42) dX12_as_42 cs_X12_93 (k_above _) ⟨by decide, by decide⟩ (Nat.le_of_ble_eq_true rfl) ?_
        refine gq_istore_n (pc := 45) (l' := [(3, _), (0, _), (1, _), (2, _)]) dX12_as_45 (by decide) rfl ?_
        refine gq_goto (pc := 46) 32 dX12_as_46 (by decide) ?_
        refine gq_sub [0, 1, 2, 3] rfl ?_
        exact L0 (by simp [p_isk] at hw ⊢; first | exact hw.resolve_left (fun q => h_38 q.symm) | (rcases hw with q | q; exact absurd q.symm h_38; exact q))
  have L5 : p_isk 5 v = true → ge_B X ge_SH YX12_as 2 (fun v2 g2 => v2 = (some (.int (p_e r j 1))) ∧ g2 = (ge_m g r f)) 32 [(3, .int 5), (0, .ref (ge_ad X.1 76)), (1, .int e), (2, .int v)] [] (ge_m g r f) := by
    intro hw
    refine gq_iload_n (pc := 32) dX12_as_32 rfl ?_
    refine gq_if_lt (pc := 33) 49 dX12_as_33 (by decide) (fun h_33 => ?_) (fun h_33 => ?_)
    · exact absurd h_33 (by decide)
    · refine gq_iload_n (pc := 36) dX12_as_36 rfl ?_
      refine gq_iload_n (pc := 37) dX12_as_37 rfl ?_
      refine gq_ic_eq (pc := 38) 49 dX12_as_38 (by decide) (fun h_38 => ?_) (fun h_38 => ?_)
      · refine gq_iload_n (pc := 49) dX12_as_49 rfl ?_
        refine gq_if_ge (pc := 50) 62 dX12_as_50 (by decide) (fun h_50 => ?_) (fun h_50 => ?_)
        · refine gq_aload_n (pc := 62) dX12_as_62 rfl ?_
          refine gq_iload_n (pc := 63) dX12_as_63 rfl ?_
          refine gq_iconst (pc := 64) dX12_as_64 kc_1 ?_
          refine gq_rV2i (pc := 65) dX12_as_65 cv_X12_69 sh_76 (k_its he kl_1 (by omega)) ⟨by decide, by decide⟩ rfl rfl (Nat.le_of_ble_eq_true rfl) ?_
          exact gq_iret (pc := 68) rfl dX12_as_68 ⟨rfl, rfl⟩
        · exact absurd h_50 (by decide)
      · refine gq_iload_n (pc := 41) dX12_as_41 rfl ?_
        refine gq_rS1i (pc := 42) dX12_as_42 cs_X12_93 (k_above _) ⟨by decide, by decide⟩ (Nat.le_of_ble_eq_true rfl) ?_
        refine gq_istore_n (pc := 45) (l' := [(3, _), (0, _), (1, _), (2, _)]) dX12_as_45 (by decide) rfl ?_
        refine gq_goto (pc := 46) 32 dX12_as_46 (by decide) ?_
        refine gq_sub [0, 1, 2, 3] rfl ?_
        exact L2 (by simp [p_isk] at hw ⊢; first | exact hw.resolve_left (fun q => h_38 q.symm) | (rcases hw with q | q; exact absurd q.symm h_38; exact q))
  refine gq_aload_n (pc := 0) dX12_as_0 rfl ?_
  refine gq_iload_n (pc := 1) dX12_as_1 rfl ?_
  refine gq_rV1i (pc := 2) dX12_as_2 cv_X12_66 sh_76 (k_isEye _) ⟨by decide, by decide⟩ rfl rfl (Nat.le_of_ble_eq_true rfl) ?_
  refine gq_if_eq (pc := 5) 18 dX12_as_5 (by decide) (fun h_5 => ?_) (fun h_5 => ?_)
  · exact absurd h_5 (p_in_E he hj (by omega) e2)
  · refine gq_iload_n (pc := 8) dX12_as_8 rfl ?_
    refine gq_iconst (pc := 9) dX12_as_9 kc_0 ?_
    refine gq_bipush (pc := 10) dX12_as_10 kb_6 ?_
    refine gq_rS3i (pc := 12) dX12_as_12 cs_X12_41 (k_in _ _ _) ⟨by decide, by decide⟩ (Nat.le_of_ble_eq_true rfl) ?_
    refine gq_if_ne (pc := 15) 25 dX12_as_15 (by decide) (fun h_15 => ?_) (fun h_15 => ?_)
    · refine gq_aload_n (pc := 25) dX12_as_25 rfl ?_
      refine gq_iload_n (pc := 26) dX12_as_26 rfl ?_
      refine gq_iconst (pc := 27) dX12_as_27 kc_0 ?_
      refine gq_rV2i (pc := 28) dX12_as_28 cv_X12_69 sh_76 (k_its he kl_0 (by omega)) ⟨by decide, by decide⟩ rfl rfl (Nat.le_of_ble_eq_true rfl) ?_
      refine gq_istore_n (pc := 31) (l' := [(3, _), (0, _), (1, _), (2, _)]) dX12_as_31 (by decide) rfl ?_
      refine gq_sub [0, 1, 2, 3] rfl ?_
      rw [ek]
      exact L5 hq
    · exact absurd h_15 hv
set_option maxHeartbeats 400000 in
theorem c_as_5_0 {e v : Int32} {j E : Nat} (he : e = nI j) (hj : j < E) (hE : E ≤ 8) (e2 : r 2 = nI E) (hv : ¬ p_in v 0 6 = 0) (ek : p_e r j 0 = nI 5) (hq : p_isk 5 v = false) : ge_N X ge_SH YX11_as 4 [.ref (ge_ad X.1 0), .int e, .int v] (ge_k g 25 r x hb) (some (.int (-1000000000 - 5))) (ge_k (ge_up g 75 5 (g 75 5 + 1)) 25 r x hb) := by
  refine gq_ofB (l := [(0, .ref (ge_ad X.1 0)), (1, .int e), (2, .int v)]) (by decide) (Nat.le_of_ble_eq_true rfl) rfl ?_
  refine gq_aload_n (pc := 0) dX11_as_0 rfl ?_
  refine gq_iload_n (pc := 1) dX11_as_1 rfl ?_
  refine gq_rV1i (pc := 2) dX11_as_2 cv_X11_126 sh_0 (c_noEye _) ⟨by decide, by decide⟩ rfl rfl (Nat.le_of_ble_eq_true rfl) ?_
  refine gq_if_ne (pc := 5) 18 dX11_as_5 (by decide) (fun h_5 => ?_) (fun h_5 => ?_)
  · exact absurd (p_nt_0.mpr (p_in_E he hj (by omega) e2)) h_5
  · refine gq_iload_n (pc := 8) dX11_as_8 rfl ?_
    refine gq_iconst (pc := 9) dX11_as_9 kc_0 ?_
    refine gq_bipush (pc := 10) dX11_as_10 kb_6 ?_
    refine gq_rS3i (pc := 12) dX11_as_12 cs_X11_105 (c_outside _ _ _) ⟨by decide, by decide⟩ (Nat.le_of_ble_eq_true rfl) ?_
    refine gq_if_eq (pc := 15) 24 dX11_as_15 (by decide) (fun h_15 => ?_) (fun h_15 => ?_)
    · refine gq_aload_n (pc := 24) dX11_as_24 rfl ?_
      refine gq_getr (pc := 25) dX11_as_25 fl_X11_41_11 sh_0 rfl ?_
      refine gq_aload_n (pc := 28) dX11_as_28 rfl ?_
      refine gq_getr (pc := 29) dX11_as_29 fl_X11_60_11 sh_0 rfl ?_
      refine gq_getr (pc := 32) dX11_as_32 fl_X11_129_10 sh_25 rfl ?_
      refine gq_iload_n (pc := 35) dX11_as_35 rfl ?_
      refine kq_ald2 (pw := 25) (pc := 36) (by decide) dX11_as_36 he (by first | decide | omega) ?_
      refine gq_aald (pc := 37) dX11_as_37 sh_3 rfl ek rfl (by decide) ?_
      refine gq_iload_n (pc := 38) dX11_as_38 rfl ?_
      refine gq_rU1i (pc := 39) dX11_as_39 cu_X11_179_8 sh_9 (c_isOf_5_9 _) ⟨by decide, by decide⟩ rfl rfl (Nat.le_of_ble_eq_true rfl) ?_
      refine gq_if_ne (pc := 42) 51 dX11_as_42 (by decide) (fun h_42 => ?_) (fun h_42 => ?_)
      · exact absurd (p_b_n.mp h_42) (by rw [hq]; decide)
      · refine gq_aload_n (pc := 45) dX11_as_45 rfl ?_
        refine gq_iconst (pc := 46) dX11_as_46 kc_5 ?_
        refine gq_rV1i (pc := 47) dX11_as_47 cv_X11_109 sh_0 (c_error kl_5 (by decide)) ⟨by decide, by decide⟩ rfl rfl (Nat.le_of_ble_eq_true rfl) ?_
        exact gq_iret (pc := 50) rfl dX11_as_50 ⟨rfl, rfl⟩
    · exact absurd (p_nt_0.mpr hv) h_15
set_option maxHeartbeats 1000000 in
theorem m_as_5_0 {e v : Int32} {j E : Nat} (he : e = nI j) (hj : j < E) (hE : E ≤ 8) (e2 : r 2 = nI E) (hv : ¬ p_in v 0 6 = 0) (ek : p_e r j 0 = nI 5) (hq : p_isk 5 v = false) : ge_N X ge_SH YX12_as 2 [.ref (ge_ad X.1 76), .int e, .int v] (ge_m g r f) (some (.int (-1000000005))) (ge_m (ge_up g 81 5 (g 81 5 + 1)) r f) := by
  refine gq_ofB (l := [(0, .ref (ge_ad X.1 76)), (1, .int e), (2, .int v)]) (by decide) (Nat.le_of_ble_eq_true rfl) rfl ?_
  have Lm1 : ge_B X ge_SH YX12_as 2 (fun v2 g2 => v2 = (some (.int (-1000000005))) ∧ g2 = (ge_m (ge_up g 81 5 (g 81 5 + 1)) r f)) 32 [(3, .int (-1)), (0, .ref (ge_ad X.1 76)), (1, .int e), (2, .int v)] [] (ge_m g r f) := by
    refine gq_iload_n (pc := 32) dX12_as_32 rfl ?_
    refine gq_if_lt (pc := 33) 49 dX12_as_33 (by decide) (fun h_33 => ?_) (fun h_33 => ?_)
    · refine gq_iload_n (pc := 49) dX12_as_49 rfl ?_
      refine gq_if_ge (pc := 50) 62 dX12_as_50 (by decide) (fun h_50 => ?_) (fun h_50 => ?_)
      · exact absurd h_50 (by decide)
      · refine gq_aload_n (pc := 53) dX12_as_53 rfl ?_
        refine gq_ldc (pc := 54) dX12_as_54 kn_X12_96 ?_
        refine gq_rV1i (pc := 56) dX12_as_56 cv_X12_54 sh_76 (k_errs (j := 5) (by decide) (by decide)) ⟨by decide, by decide⟩ rfl rfl (Nat.le_of_ble_eq_true rfl) ?_
        refine gq_goto (pc := 59) 68 dX12_as_59 (by decide) ?_
        exact gq_iret (pc := 68) rfl dX12_as_68 ⟨rfl, rfl⟩
    · exact absurd h_33 (by decide)
  have L0 : p_isk 0 v = false → ge_B X ge_SH YX12_as 2 (fun v2 g2 => v2 = (some (.int (-1000000005))) ∧ g2 = (ge_m (ge_up g 81 5 (g 81 5 + 1)) r f)) 32 [(3, .int 0), (0, .ref (ge_ad X.1 76)), (1, .int e), (2, .int v)] [] (ge_m g r f) := by
    intro hw
    have h0 : ¬ v = 0 := by intro q; rw [q] at hw; revert hw; decide
    refine gq_iload_n (pc := 32) dX12_as_32 rfl ?_
    refine gq_if_lt (pc := 33) 49 dX12_as_33 (by decide) (fun h_33 => ?_) (fun h_33 => ?_)
    · exact absurd h_33 (by decide)
    · refine gq_iload_n (pc := 36) dX12_as_36 rfl ?_
      refine gq_iload_n (pc := 37) dX12_as_37 rfl ?_
      refine gq_ic_eq (pc := 38) 49 dX12_as_38 (by decide) (fun h_38 => ?_) (fun h_38 => ?_)
      · exact absurd h_38.symm h0
      · refine gq_iload_n (pc := 41) dX12_as_41 rfl ?_
        refine gq_rS1i (pc := 42) dX12_as_42 cs_X12_93 (k_above _) ⟨by decide, by decide⟩ (Nat.le_of_ble_eq_true rfl) ?_
        refine gq_istore_n (pc := 45) (l' := [(3, _), (0, _), (1, _), (2, _)]) dX12_as_45 (by decide) rfl ?_
        refine gq_goto (pc := 46) 32 dX12_as_46 (by decide) ?_
        refine gq_sub [0, 1, 2, 3] rfl ?_
        exact Lm1
  have L2 : p_isk 2 v = false → ge_B X ge_SH YX12_as 2 (fun v2 g2 => v2 = (some (.int (-1000000005))) ∧ g2 = (ge_m (ge_up g 81 5 (g 81 5 + 1)) r f)) 32 [(3, .int 2), (0, .ref (ge_ad X.1 76)), (1, .int e), (2, .int v)] [] (ge_m g r f) := by
    intro hw
    have h0 : ¬ v = 2 := by intro q; rw [q] at hw; revert hw; decide
    refine gq_iload_n (pc := 32) dX12_as_32 rfl ?_
    refine gq_if_lt (pc := 33) 49 dX12_as_33 (by decide) (fun h_33 => ?_) (fun h_33 => ?_)
    · exact absurd h_33 (by decide)
    · refine gq_iload_n (pc := 36) dX12_as_36 rfl ?_
      refine gq_iload_n (pc := 37) dX12_as_37 rfl ?_
      refine gq_ic_eq (pc := 38) 49 dX12_as_38 (by decide) (fun h_38 => ?_) (fun h_38 => ?_)
      · exact absurd h_38.symm h0
      · refine gq_iload_n (pc := 41) dX12_as_41 rfl ?_
        refine gq_rS1i (pc := 42) dX12_as_42 cs_X12_93 (k_above _) ⟨by decide, by decide⟩ (Nat.le_of_ble_eq_true rfl) ?_
        refine gq_istore_n (pc := 45) (l' := [(3, _), (0, _), (1, _), (2, _)]) dX12_as_45 (by decide) rfl ?_
        refine gq_goto (pc := 46) 32 dX12_as_46 (by decide) ?_
        refine gq_sub [0, 1, 2, 3] rfl ?_
        exact L0 (by simp [p_isk] at hw ⊢; simp [hw])
  have L5 : p_isk 5 v = false → ge_B X ge_SH YX12_as 2 (fun v2 g2 => v2 = (some (.int (-1000000005))) ∧ g2 = (ge_m (ge_up g 81 5 (g 81 5 + 1)) r f)) 32 [(3, .int 5), (0, .ref (ge_ad X.1 76)), (1, .int e), (2, .int v)] [] (ge_m g r f) := by
    intro hw
    have h0 : ¬ v = 5 := by intro q; rw [q] at hw; revert hw; decide
    refine gq_iload_n (pc := 32) dX12_as_32 rfl ?_
    refine gq_if_lt (pc := 33) 49 dX12_as_33 (by decide) (fun h_33 => ?_) (fun h_33 => ?_)
    · exact absurd h_33 (by decide)
    · refine gq_iload_n (pc := 36) dX12_as_36 rfl ?_
      refine gq_iload_n (pc := 37) dX12_as_37 rfl ?_
      refine gq_ic_eq (pc := 38) 49 dX12_as_38 (by decide) (fun h_38 => ?_) (fun h_38 => ?_)
      · exact absurd h_38.symm h0
      · refine gq_iload_n (pc := 41) dX12_as_41 rfl ?_
        refine gq_rS1i (pc := 42) dX12_as_42 cs_X12_93 (k_above _) ⟨by decide, by decide⟩ (Nat.le_of_ble_eq_true rfl) ?_
        refine gq_istore_n (pc := 45) (l' := [(3, _), (0, _), (1, _), (2, _)]) dX12_as_45 (by decide) rfl ?_
        refine gq_goto (pc := 46) 32 dX12_as_46 (by decide) ?_
        refine gq_sub [0, 1, 2, 3] rfl ?_
        exact L2 (by simp [p_isk] at hw ⊢; simp [hw])
  refine gq_aload_n (pc := 0) dX12_as_0 rfl ?_
  refine gq_iload_n (pc := 1) dX12_as_1 rfl ?_
  refine gq_rV1i (pc := 2) dX12_as_2 cv_X12_66 sh_76 (k_isEye _) ⟨by decide, by decide⟩ rfl rfl (Nat.le_of_ble_eq_true rfl) ?_
  refine gq_if_eq (pc := 5) 18 dX12_as_5 (by decide) (fun h_5 => ?_) (fun h_5 => ?_)
  · exact absurd h_5 (p_in_E he hj (by omega) e2)
  · refine gq_iload_n (pc := 8) dX12_as_8 rfl ?_
    refine gq_iconst (pc := 9) dX12_as_9 kc_0 ?_
    refine gq_bipush (pc := 10) dX12_as_10 kb_6 ?_
    refine gq_rS3i (pc := 12) dX12_as_12 cs_X12_41 (k_in _ _ _) ⟨by decide, by decide⟩ (Nat.le_of_ble_eq_true rfl) ?_
    refine gq_if_ne (pc := 15) 25 dX12_as_15 (by decide) (fun h_15 => ?_) (fun h_15 => ?_)
    · refine gq_aload_n (pc := 25) dX12_as_25 rfl ?_
      refine gq_iload_n (pc := 26) dX12_as_26 rfl ?_
      refine gq_iconst (pc := 27) dX12_as_27 kc_0 ?_
      refine gq_rV2i (pc := 28) dX12_as_28 cv_X12_69 sh_76 (k_its he kl_0 (by omega)) ⟨by decide, by decide⟩ rfl rfl (Nat.le_of_ble_eq_true rfl) ?_
      refine gq_istore_n (pc := 31) (l' := [(3, _), (0, _), (1, _), (2, _)]) dX12_as_31 (by decide) rfl ?_
      refine gq_sub [0, 1, 2, 3] rfl ?_
      rw [ek]
      exact L5 hq
    · exact absurd h_15 hv
set_option maxHeartbeats 400000 in
theorem c_as_6_1 {e v : Int32} {j E : Nat} (he : e = nI j) (hj : j < E) (hE : E ≤ 8) (e2 : r 2 = nI E) (hv : ¬ p_in v 0 6 = 0) (ek : p_e r j 0 = nI 6) (hq : p_isk 6 v = true) : ge_N X ge_SH YX11_as 4 [.ref (ge_ad X.1 0), .int e, .int v] (ge_k g 25 r x hb) (some (.int (p_e r j 1))) (ge_k g 25 r x hb) := by
  refine gq_ofB (l := [(0, .ref (ge_ad X.1 0)), (1, .int e), (2, .int v)]) (by decide) (Nat.le_of_ble_eq_true rfl) rfl ?_
  refine gq_aload_n (pc := 0) dX11_as_0 rfl ?_
  refine gq_iload_n (pc := 1) dX11_as_1 rfl ?_
  refine gq_rV1i (pc := 2) dX11_as_2 cv_X11_126 sh_0 (c_noEye _) ⟨by decide, by decide⟩ rfl rfl (Nat.le_of_ble_eq_true rfl) ?_
  refine gq_if_ne (pc := 5) 18 dX11_as_5 (by decide) (fun h_5 => ?_) (fun h_5 => ?_)
  · exact absurd (p_nt_0.mpr (p_in_E he hj (by omega) e2)) h_5
  · refine gq_iload_n (pc := 8) dX11_as_8 rfl ?_
    refine gq_iconst (pc := 9) dX11_as_9 kc_0 ?_
    refine gq_bipush (pc := 10) dX11_as_10 kb_6 ?_
    refine gq_rS3i (pc := 12) dX11_as_12 cs_X11_105 (c_outside _ _ _) ⟨by decide, by decide⟩ (Nat.le_of_ble_eq_true rfl) ?_
    refine gq_if_eq (pc := 15) 24 dX11_as_15 (by decide) (fun h_15 => ?_) (fun h_15 => ?_)
    · refine gq_aload_n (pc := 24) dX11_as_24 rfl ?_
      refine gq_getr (pc := 25) dX11_as_25 fl_X11_41_11 sh_0 rfl ?_
      refine gq_aload_n (pc := 28) dX11_as_28 rfl ?_
      refine gq_getr (pc := 29) dX11_as_29 fl_X11_60_11 sh_0 rfl ?_
      refine gq_getr (pc := 32) dX11_as_32 fl_X11_129_10 sh_25 rfl ?_
      refine gq_iload_n (pc := 35) dX11_as_35 rfl ?_
      refine kq_ald2 (pw := 25) (pc := 36) (by decide) dX11_as_36 he (by first | decide | omega) ?_
      refine gq_aald (pc := 37) dX11_as_37 sh_3 rfl ek rfl (by decide) ?_
      refine gq_iload_n (pc := 38) dX11_as_38 rfl ?_
      refine gq_rU1i (pc := 39) dX11_as_39 cu_X11_179_5 sh_10 (c_isOf_6_10 _) ⟨by decide, by decide⟩ rfl rfl (Nat.le_of_ble_eq_true rfl) ?_
      refine gq_if_ne (pc := 42) 51 dX11_as_42 (by decide) (fun h_42 => ?_) (fun h_42 => ?_)
      · refine gq_aload_n (pc := 51) dX11_as_51 rfl ?_
        refine gq_getr (pc := 52) dX11_as_52 fl_X11_60_11 sh_0 rfl ?_
        refine gq_getr (pc := 55) dX11_as_55 fl_X11_132_10 sh_25 rfl ?_
        refine gq_iload_n (pc := 58) dX11_as_58 rfl ?_
        refine kq_ald3 (pw := 25) (pc := 59) (by decide) dX11_as_59 he (by first | decide | omega) ?_
        exact gq_iret (pc := 60) rfl dX11_as_60 ⟨rfl, rfl⟩
      · exact absurd (p_b_0.mp h_42) (by rw [hq]; decide)
    · exact absurd (p_nt_0.mpr hv) h_15
set_option maxHeartbeats 1000000 in
theorem m_as_6_1 {e v : Int32} {j E : Nat} (he : e = nI j) (hj : j < E) (hE : E ≤ 8) (e2 : r 2 = nI E) (hv : ¬ p_in v 0 6 = 0) (ek : p_e r j 0 = nI 6) (hq : p_isk 6 v = true) : ge_N X ge_SH YX12_as 2 [.ref (ge_ad X.1 76), .int e, .int v] (ge_m g r f) (some (.int (p_e r j 1))) (ge_m g r f) := by
  refine gq_ofB (l := [(0, .ref (ge_ad X.1 76)), (1, .int e), (2, .int v)]) (by decide) (Nat.le_of_ble_eq_true rfl) rfl ?_
  have L0 : p_isk 0 v = true → ge_B X ge_SH YX12_as 2 (fun v2 g2 => v2 = (some (.int (p_e r j 1))) ∧ g2 = (ge_m g r f)) 32 [(3, .int 0), (0, .ref (ge_ad X.1 76)), (1, .int e), (2, .int v)] [] (ge_m g r f) := by
    intro hw
    refine gq_iload_n (pc := 32) dX12_as_32 rfl ?_
    refine gq_if_lt (pc := 33) 49 dX12_as_33 (by decide) (fun h_33 => ?_) (fun h_33 => ?_)
    · exact absurd h_33 (by decide)
    · refine gq_iload_n (pc := 36) dX12_as_36 rfl ?_
      refine gq_iload_n (pc := 37) dX12_as_37 rfl ?_
      refine gq_ic_eq (pc := 38) 49 dX12_as_38 (by decide) (fun h_38 => ?_) (fun h_38 => ?_)
      · refine gq_iload_n (pc := 49) dX12_as_49 rfl ?_
        refine gq_if_ge (pc := 50) 62 dX12_as_50 (by decide) (fun h_50 => ?_) (fun h_50 => ?_)
        · refine gq_aload_n (pc := 62) dX12_as_62 rfl ?_
          refine gq_iload_n (pc := 63) dX12_as_63 rfl ?_
          refine gq_iconst (pc := 64) dX12_as_64 kc_1 ?_
          refine gq_rV2i (pc := 65) dX12_as_65 cv_X12_69 sh_76 (k_its he kl_1 (by omega)) ⟨by decide, by decide⟩ rfl rfl (Nat.le_of_ble_eq_true rfl) ?_
          exact gq_iret (pc := 68) rfl dX12_as_68 ⟨rfl, rfl⟩
        · exact absurd h_50 (by decide)
      · refine gq_iload_n (pc := 41) dX12_as_41 rfl ?_
        refine gq_rS1i (pc := 42) dX12_as_42 cs_X12_93 (k_above _) ⟨by decide, by decide⟩ (Nat.le_of_ble_eq_true rfl) ?_
        refine gq_istore_n (pc := 45) (l' := [(3, _), (0, _), (1, _), (2, _)]) dX12_as_45 (by decide) rfl ?_
        refine gq_goto (pc := 46) 32 dX12_as_46 (by decide) ?_
        refine gq_sub [0, 1, 2, 3] rfl ?_
        exact absurd (by simp [p_isk] at hw; exact hw.symm) h_38
  have L3 : p_isk 3 v = true → ge_B X ge_SH YX12_as 2 (fun v2 g2 => v2 = (some (.int (p_e r j 1))) ∧ g2 = (ge_m g r f)) 32 [(3, .int 3), (0, .ref (ge_ad X.1 76)), (1, .int e), (2, .int v)] [] (ge_m g r f) := by
    intro hw
    refine gq_iload_n (pc := 32) dX12_as_32 rfl ?_
    refine gq_if_lt (pc := 33) 49 dX12_as_33 (by decide) (fun h_33 => ?_) (fun h_33 => ?_)
    · exact absurd h_33 (by decide)
    · refine gq_iload_n (pc := 36) dX12_as_36 rfl ?_
      refine gq_iload_n (pc := 37) dX12_as_37 rfl ?_
      refine gq_ic_eq (pc := 38) 49 dX12_as_38 (by decide) (fun h_38 => ?_) (fun h_38 => ?_)
      · refine gq_iload_n (pc := 49) dX12_as_49 rfl ?_
        refine gq_if_ge (pc := 50) 62 dX12_as_50 (by decide) (fun h_50 => ?_) (fun h_50 => ?_)
        · refine gq_aload_n (pc := 62) dX12_as_62 rfl ?_
          refine gq_iload_n (pc := 63) dX12_as_63 rfl ?_
          refine gq_iconst (pc := 64) dX12_as_64 kc_1 ?_
          refine gq_rV2i (pc := 65) dX12_as_65 cv_X12_69 sh_76 (k_its he kl_1 (by omega)) ⟨by decide, by decide⟩ rfl rfl (Nat.le_of_ble_eq_true rfl) ?_
          exact gq_iret (pc := 68) rfl dX12_as_68 ⟨rfl, rfl⟩
        · exact absurd h_50 (by decide)
      · refine gq_iload_n (pc := 41) dX12_as_41 rfl ?_
        refine gq_rS1i (pc := 42) dX12_as_42 cs_X12_93 (k_above _) ⟨by decide, by decide⟩ (Nat.le_of_ble_eq_true rfl) ?_
        refine gq_istore_n (pc := 45) (l' := [(3, _), (0, _), (1, _), (2, _)]) dX12_as_45 (by decide) rfl ?_
        refine gq_goto (pc := 46) 32 dX12_as_46 (by decide) ?_
        refine gq_sub [0, 1, 2, 3] rfl ?_
        exact L0 (by simp [p_isk] at hw ⊢; first | exact hw.resolve_left (fun q => h_38 q.symm) | (rcases hw with q | q; exact absurd q.symm h_38; exact q))
  have L6 : p_isk 6 v = true → ge_B X ge_SH YX12_as 2 (fun v2 g2 => v2 = (some (.int (p_e r j 1))) ∧ g2 = (ge_m g r f)) 32 [(3, .int 6), (0, .ref (ge_ad X.1 76)), (1, .int e), (2, .int v)] [] (ge_m g r f) := by
    intro hw
    refine gq_iload_n (pc := 32) dX12_as_32 rfl ?_
    refine gq_if_lt (pc := 33) 49 dX12_as_33 (by decide) (fun h_33 => ?_) (fun h_33 => ?_)
    · exact absurd h_33 (by decide)
    · refine gq_iload_n (pc := 36) dX12_as_36 rfl ?_
      refine gq_iload_n (pc := 37) dX12_as_37 rfl ?_
      refine gq_ic_eq (pc := 38) 49 dX12_as_38 (by decide) (fun h_38 => ?_) (fun h_38 => ?_)
      · refine gq_iload_n (pc := 49) dX12_as_49 rfl ?_
        refine gq_if_ge (pc := 50) 62 dX12_as_50 (by decide) (fun h_50 => ?_) (fun h_50 => ?_)
        · refine gq_aload_n (pc := 62) dX12_as_62 rfl ?_
          refine gq_iload_n (pc := 63) dX12_as_63 rfl ?_
          refine gq_iconst (pc := 64) dX12_as_64 kc_1 ?_
          refine gq_rV2i (pc := 65) dX12_as_65 cv_X12_69 sh_76 (k_its he kl_1 (by omega)) ⟨by decide, by decide⟩ rfl rfl (Nat.le_of_ble_eq_true rfl) ?_
          exact gq_iret (pc := 68) rfl dX12_as_68 ⟨rfl, rfl⟩
        · exact absurd h_50 (by decide)
      · refine gq_iload_n (pc := 41) dX12_as_41 rfl ?_
        refine gq_rS1i (pc := 42) dX12_as_42 cs_X12_93 (k_above _) ⟨by decide, by decide⟩ (Nat.le_of_ble_eq_true rfl) ?_
        refine gq_istore_n (pc := 45) (l' := [(3, _), (0, _), (1, _), (2, _)]) dX12_as_45 (by decide) rfl ?_
        refine gq_goto (pc := 46) 32 dX12_as_46 (by decide) ?_
        refine gq_sub [0, 1, 2, 3] rfl ?_
        exact L3 (by simp [p_isk] at hw ⊢; first | exact hw.resolve_left (fun q => h_38 q.symm) | (rcases hw with q | q; exact absurd q.symm h_38; exact q))
  refine gq_aload_n (pc := 0) dX12_as_0 rfl ?_
  refine gq_iload_n (pc := 1) dX12_as_1 rfl ?_
  refine gq_rV1i (pc := 2) dX12_as_2 cv_X12_66 sh_76 (k_isEye _) ⟨by decide, by decide⟩ rfl rfl (Nat.le_of_ble_eq_true rfl) ?_
  refine gq_if_eq (pc := 5) 18 dX12_as_5 (by decide) (fun h_5 => ?_) (fun h_5 => ?_)
  · exact absurd h_5 (p_in_E he hj (by omega) e2)
  · refine gq_iload_n (pc := 8) dX12_as_8 rfl ?_
    refine gq_iconst (pc := 9) dX12_as_9 kc_0 ?_
    refine gq_bipush (pc := 10) dX12_as_10 kb_6 ?_
    refine gq_rS3i (pc := 12) dX12_as_12 cs_X12_41 (k_in _ _ _) ⟨by decide, by decide⟩ (Nat.le_of_ble_eq_true rfl) ?_
    refine gq_if_ne (pc := 15) 25 dX12_as_15 (by decide) (fun h_15 => ?_) (fun h_15 => ?_)
    · refine gq_aload_n (pc := 25) dX12_as_25 rfl ?_
      refine gq_iload_n (pc := 26) dX12_as_26 rfl ?_
      refine gq_iconst (pc := 27) dX12_as_27 kc_0 ?_
      refine gq_rV2i (pc := 28) dX12_as_28 cv_X12_69 sh_76 (k_its he kl_0 (by omega)) ⟨by decide, by decide⟩ rfl rfl (Nat.le_of_ble_eq_true rfl) ?_
      refine gq_istore_n (pc := 31) (l' := [(3, _), (0, _), (1, _), (2, _)]) dX12_as_31 (by decide) rfl ?_
      refine gq_sub [0, 1, 2, 3] rfl ?_
      rw [ek]
      exact L6 hq
    · exact absurd h_15 hv
set_option maxHeartbeats 400000 in
theorem c_as_6_0 {e v : Int32} {j E : Nat} (he : e = nI j) (hj : j < E) (hE : E ≤ 8) (e2 : r 2 = nI E) (hv : ¬ p_in v 0 6 = 0) (ek : p_e r j 0 = nI 6) (hq : p_isk 6 v = false) : ge_N X ge_SH YX11_as 4 [.ref (ge_ad X.1 0), .int e, .int v] (ge_k g 25 r x hb) (some (.int (-1000000000 - 5))) (ge_k (ge_up g 75 5 (g 75 5 + 1)) 25 r x hb) := by
  refine gq_ofB (l := [(0, .ref (ge_ad X.1 0)), (1, .int e), (2, .int v)]) (by decide) (Nat.le_of_ble_eq_true rfl) rfl ?_
  refine gq_aload_n (pc := 0) dX11_as_0 rfl ?_
  refine gq_iload_n (pc := 1) dX11_as_1 rfl ?_
  refine gq_rV1i (pc := 2) dX11_as_2 cv_X11_126 sh_0 (c_noEye _) ⟨by decide, by decide⟩ rfl rfl (Nat.le_of_ble_eq_true rfl) ?_
  refine gq_if_ne (pc := 5) 18 dX11_as_5 (by decide) (fun h_5 => ?_) (fun h_5 => ?_)
  · exact absurd (p_nt_0.mpr (p_in_E he hj (by omega) e2)) h_5
  · refine gq_iload_n (pc := 8) dX11_as_8 rfl ?_
    refine gq_iconst (pc := 9) dX11_as_9 kc_0 ?_
    refine gq_bipush (pc := 10) dX11_as_10 kb_6 ?_
    refine gq_rS3i (pc := 12) dX11_as_12 cs_X11_105 (c_outside _ _ _) ⟨by decide, by decide⟩ (Nat.le_of_ble_eq_true rfl) ?_
    refine gq_if_eq (pc := 15) 24 dX11_as_15 (by decide) (fun h_15 => ?_) (fun h_15 => ?_)
    · refine gq_aload_n (pc := 24) dX11_as_24 rfl ?_
      refine gq_getr (pc := 25) dX11_as_25 fl_X11_41_11 sh_0 rfl ?_
      refine gq_aload_n (pc := 28) dX11_as_28 rfl ?_
      refine gq_getr (pc := 29) dX11_as_29 fl_X11_60_11 sh_0 rfl ?_
      refine gq_getr (pc := 32) dX11_as_32 fl_X11_129_10 sh_25 rfl ?_
      refine gq_iload_n (pc := 35) dX11_as_35 rfl ?_
      refine kq_ald2 (pw := 25) (pc := 36) (by decide) dX11_as_36 he (by first | decide | omega) ?_
      refine gq_aald (pc := 37) dX11_as_37 sh_3 rfl ek rfl (by decide) ?_
      refine gq_iload_n (pc := 38) dX11_as_38 rfl ?_
      refine gq_rU1i (pc := 39) dX11_as_39 cu_X11_179_5 sh_10 (c_isOf_6_10 _) ⟨by decide, by decide⟩ rfl rfl (Nat.le_of_ble_eq_true rfl) ?_
      refine gq_if_ne (pc := 42) 51 dX11_as_42 (by decide) (fun h_42 => ?_) (fun h_42 => ?_)
      · exact absurd (p_b_n.mp h_42) (by rw [hq]; decide)
      · refine gq_aload_n (pc := 45) dX11_as_45 rfl ?_
        refine gq_iconst (pc := 46) dX11_as_46 kc_5 ?_
        refine gq_rV1i (pc := 47) dX11_as_47 cv_X11_109 sh_0 (c_error kl_5 (by decide)) ⟨by decide, by decide⟩ rfl rfl (Nat.le_of_ble_eq_true rfl) ?_
        exact gq_iret (pc := 50) rfl dX11_as_50 ⟨rfl, rfl⟩
    · exact absurd (p_nt_0.mpr hv) h_15
set_option maxHeartbeats 1000000 in
theorem m_as_6_0 {e v : Int32} {j E : Nat} (he : e = nI j) (hj : j < E) (hE : E ≤ 8) (e2 : r 2 = nI E) (hv : ¬ p_in v 0 6 = 0) (ek : p_e r j 0 = nI 6) (hq : p_isk 6 v = false) : ge_N X ge_SH YX12_as 2 [.ref (ge_ad X.1 76), .int e, .int v] (ge_m g r f) (some (.int (-1000000005))) (ge_m (ge_up g 81 5 (g 81 5 + 1)) r f) := by
  refine gq_ofB (l := [(0, .ref (ge_ad X.1 76)), (1, .int e), (2, .int v)]) (by decide) (Nat.le_of_ble_eq_true rfl) rfl ?_
  have Lm1 : ge_B X ge_SH YX12_as 2 (fun v2 g2 => v2 = (some (.int (-1000000005))) ∧ g2 = (ge_m (ge_up g 81 5 (g 81 5 + 1)) r f)) 32 [(3, .int (-1)), (0, .ref (ge_ad X.1 76)), (1, .int e), (2, .int v)] [] (ge_m g r f) := by
    refine gq_iload_n (pc := 32) dX12_as_32 rfl ?_
    refine gq_if_lt (pc := 33) 49 dX12_as_33 (by decide) (fun h_33 => ?_) (fun h_33 => ?_)
    · refine gq_iload_n (pc := 49) dX12_as_49 rfl ?_
      refine gq_if_ge (pc := 50) 62 dX12_as_50 (by decide) (fun h_50 => ?_) (fun h_50 => ?_)
      · exact absurd h_50 (by decide)
      · refine gq_aload_n (pc := 53) dX12_as_53 rfl ?_
        refine gq_ldc (pc := 54) dX12_as_54 kn_X12_96 ?_
        refine gq_rV1i (pc := 56) dX12_as_56 cv_X12_54 sh_76 (k_errs (j := 5) (by decide) (by decide)) ⟨by decide, by decide⟩ rfl rfl (Nat.le_of_ble_eq_true rfl) ?_
        refine gq_goto (pc := 59) 68 dX12_as_59 (by decide) ?_
        exact gq_iret (pc := 68) rfl dX12_as_68 ⟨rfl, rfl⟩
    · exact absurd h_33 (by decide)
  have L0 : p_isk 0 v = false → ge_B X ge_SH YX12_as 2 (fun v2 g2 => v2 = (some (.int (-1000000005))) ∧ g2 = (ge_m (ge_up g 81 5 (g 81 5 + 1)) r f)) 32 [(3, .int 0), (0, .ref (ge_ad X.1 76)), (1, .int e), (2, .int v)] [] (ge_m g r f) := by
    intro hw
    have h0 : ¬ v = 0 := by intro q; rw [q] at hw; revert hw; decide
    refine gq_iload_n (pc := 32) dX12_as_32 rfl ?_
    refine gq_if_lt (pc := 33) 49 dX12_as_33 (by decide) (fun h_33 => ?_) (fun h_33 => ?_)
    · exact absurd h_33 (by decide)
    · refine gq_iload_n (pc := 36) dX12_as_36 rfl ?_
      refine gq_iload_n (pc := 37) dX12_as_37 rfl ?_
      refine gq_ic_eq (pc := 38) 49 dX12_as_38 (by decide) (fun h_38 => ?_) (fun h_38 => ?_)
      · exact absurd h_38.symm h0
      · refine gq_iload_n (pc := 41) dX12_as_41 rfl ?_
        refine gq_rS1i (pc := 42) dX12_as_42 cs_X12_93 (k_above _) ⟨by decide, by decide⟩ (Nat.le_of_ble_eq_true rfl) ?_
        refine gq_istore_n (pc := 45) (l' := [(3, _), (0, _), (1, _), (2, _)]) dX12_as_45 (by decide) rfl ?_
        refine gq_goto (pc := 46) 32 dX12_as_46 (by decide) ?_
        refine gq_sub [0, 1, 2, 3] rfl ?_
        exact Lm1
  have L3 : p_isk 3 v = false → ge_B X ge_SH YX12_as 2 (fun v2 g2 => v2 = (some (.int (-1000000005))) ∧ g2 = (ge_m (ge_up g 81 5 (g 81 5 + 1)) r f)) 32 [(3, .int 3), (0, .ref (ge_ad X.1 76)), (1, .int e), (2, .int v)] [] (ge_m g r f) := by
    intro hw
    have h0 : ¬ v = 3 := by intro q; rw [q] at hw; revert hw; decide
    refine gq_iload_n (pc := 32) dX12_as_32 rfl ?_
    refine gq_if_lt (pc := 33) 49 dX12_as_33 (by decide) (fun h_33 => ?_) (fun h_33 => ?_)
    · exact absurd h_33 (by decide)
    · refine gq_iload_n (pc := 36) dX12_as_36 rfl ?_
      refine gq_iload_n (pc := 37) dX12_as_37 rfl ?_
      refine gq_ic_eq (pc := 38) 49 dX12_as_38 (by decide) (fun h_38 => ?_) (fun h_38 => ?_)
      · exact absurd h_38.symm h0
      · refine gq_iload_n (pc := 41) dX12_as_41 rfl ?_
        refine gq_rS1i (pc := 42) dX12_as_42 cs_X12_93 (k_above _) ⟨by decide, by decide⟩ (Nat.le_of_ble_eq_true rfl) ?_
        refine gq_istore_n (pc := 45) (l' := [(3, _), (0, _), (1, _), (2, _)]) dX12_as_45 (by decide) rfl ?_
        refine gq_goto (pc := 46) 32 dX12_as_46 (by decide) ?_
        refine gq_sub [0, 1, 2, 3] rfl ?_
        exact L0 (by simp [p_isk] at hw ⊢; simp [hw])
  have L6 : p_isk 6 v = false → ge_B X ge_SH YX12_as 2 (fun v2 g2 => v2 = (some (.int (-1000000005))) ∧ g2 = (ge_m (ge_up g 81 5 (g 81 5 + 1)) r f)) 32 [(3, .int 6), (0, .ref (ge_ad X.1 76)), (1, .int e), (2, .int v)] [] (ge_m g r f) := by
    intro hw
    have h0 : ¬ v = 6 := by intro q; rw [q] at hw; revert hw; decide
    refine gq_iload_n (pc := 32) dX12_as_32 rfl ?_
    refine gq_if_lt (pc := 33) 49 dX12_as_33 (by decide) (fun h_33 => ?_) (fun h_33 => ?_)
    · exact absurd h_33 (by decide)
    · refine gq_iload_n (pc := 36) dX12_as_36 rfl ?_
      refine gq_iload_n (pc := 37) dX12_as_37 rfl ?_
      refine gq_ic_eq (pc := 38) 49 dX12_as_38 (by decide) (fun h_38 => ?_) (fun h_38 => ?_)
      · exact absurd h_38.symm h0
      · refine gq_iload_n (pc := 41) dX12_as_41 rfl ?_
        refine gq_rS1i (pc := 42) dX12_as_42 cs_X12_93 (k_above _) ⟨by decide, by decide⟩ (Nat.le_of_ble_eq_true rfl) ?_
        refine gq_istore_n (pc := 45) (l' := [(3, _), (0, _), (1, _), (2, _)]) dX12_as_45 (by decide) rfl ?_
        refine gq_goto (pc := 46) 32 dX12_as_46 (by decide) ?_
        refine gq_sub [0, 1, 2, 3] rfl ?_
        exact L3 (by simp [p_isk] at hw ⊢; simp [hw])
  refine gq_aload_n (pc := 0) dX12_as_0 rfl ?_
  refine gq_iload_n (pc := 1) dX12_as_1 rfl ?_
  refine gq_rV1i (pc := 2) dX12_as_2 cv_X12_66 sh_76 (k_isEye _) ⟨by decide, by decide⟩ rfl rfl (Nat.le_of_ble_eq_true rfl) ?_
  refine gq_if_eq (pc := 5) 18 dX12_as_5 (by decide) (fun h_5 => ?_) (fun h_5 => ?_)
  · exact absurd h_5 (p_in_E he hj (by omega) e2)
  · refine gq_iload_n (pc := 8) dX12_as_8 rfl ?_
    refine gq_iconst (pc := 9) dX12_as_9 kc_0 ?_
    refine gq_bipush (pc := 10) dX12_as_10 kb_6 ?_
    refine gq_rS3i (pc := 12) dX12_as_12 cs_X12_41 (k_in _ _ _) ⟨by decide, by decide⟩ (Nat.le_of_ble_eq_true rfl) ?_
    refine gq_if_ne (pc := 15) 25 dX12_as_15 (by decide) (fun h_15 => ?_) (fun h_15 => ?_)
    · refine gq_aload_n (pc := 25) dX12_as_25 rfl ?_
      refine gq_iload_n (pc := 26) dX12_as_26 rfl ?_
      refine gq_iconst (pc := 27) dX12_as_27 kc_0 ?_
      refine gq_rV2i (pc := 28) dX12_as_28 cv_X12_69 sh_76 (k_its he kl_0 (by omega)) ⟨by decide, by decide⟩ rfl rfl (Nat.le_of_ble_eq_true rfl) ?_
      refine gq_istore_n (pc := 31) (l' := [(3, _), (0, _), (1, _), (2, _)]) dX12_as_31 (by decide) rfl ?_
      refine gq_sub [0, 1, 2, 3] rfl ?_
      rw [ek]
      exact L6 hq
    · exact absurd h_15 hv
set_option maxHeartbeats 400000 in
theorem c_as_er {e v : Int32} (h : p_in e 0 (r 2 - 1) = 0 ∨ p_in v 0 6 = 0) : ge_N X ge_SH YX11_as 4 [.ref (ge_ad X.1 0), .int e, .int v] (ge_k g 25 r x hb) (some (.int (-1000000000 - 1))) (ge_k (ge_up g 75 1 (g 75 1 + 1)) 25 r x hb) := by
  refine gq_ofB (l := [(0, .ref (ge_ad X.1 0)), (1, .int e), (2, .int v)]) (by decide) (Nat.le_of_ble_eq_true rfl) rfl ?_
  refine gq_aload_n (pc := 0) dX11_as_0 rfl ?_
  refine gq_iload_n (pc := 1) dX11_as_1 rfl ?_
  refine gq_rV1i (pc := 2) dX11_as_2 cv_X11_126 sh_0 (c_noEye _) ⟨by decide, by decide⟩ rfl rfl (Nat.le_of_ble_eq_true rfl) ?_
  refine gq_if_ne (pc := 5) 18 dX11_as_5 (by decide) (fun h_5 => ?_) (fun h_5 => ?_)
  · refine gq_aload_n (pc := 18) dX11_as_18 rfl ?_
    refine gq_iconst (pc := 19) dX11_as_19 kc_1 ?_
    refine gq_rV1i (pc := 20) dX11_as_20 cv_X11_109 sh_0 (c_error kl_1 (by decide)) ⟨by decide, by decide⟩ rfl rfl (Nat.le_of_ble_eq_true rfl) ?_
    exact gq_iret (pc := 23) rfl dX11_as_23 ⟨rfl, rfl⟩
  · refine gq_iload_n (pc := 8) dX11_as_8 rfl ?_
    refine gq_iconst (pc := 9) dX11_as_9 kc_0 ?_
    refine gq_bipush (pc := 10) dX11_as_10 kb_6 ?_
    refine gq_rS3i (pc := 12) dX11_as_12 cs_X11_105 (c_outside _ _ _) ⟨by decide, by decide⟩ (Nat.le_of_ble_eq_true rfl) ?_
    refine gq_if_eq (pc := 15) 24 dX11_as_15 (by decide) (fun h_15 => ?_) (fun h_15 => ?_)
    · exact (h.elim (p_nt_0.mp h_5) (p_nt_0.mp h_15)).elim
    · refine gq_aload_n (pc := 18) dX11_as_18 rfl ?_
      refine gq_iconst (pc := 19) dX11_as_19 kc_1 ?_
      refine gq_rV1i (pc := 20) dX11_as_20 cv_X11_109 sh_0 (c_error kl_1 (by decide)) ⟨by decide, by decide⟩ rfl rfl (Nat.le_of_ble_eq_true rfl) ?_
      exact gq_iret (pc := 23) rfl dX11_as_23 ⟨rfl, rfl⟩
set_option maxHeartbeats 400000 in
theorem m_as_er {e v : Int32} (h : p_in e 0 (r 2 - 1) = 0 ∨ p_in v 0 6 = 0) : ge_N X ge_SH YX12_as 2 [.ref (ge_ad X.1 76), .int e, .int v] (ge_m g r f) (some (.int (-1000000001))) (ge_m (ge_up g 81 1 (g 81 1 + 1)) r f) := by
  refine gq_ofB (l := [(0, .ref (ge_ad X.1 76)), (1, .int e), (2, .int v)]) (by decide) (Nat.le_of_ble_eq_true rfl) rfl ?_
  refine gq_aload_n (pc := 0) dX12_as_0 rfl ?_
  refine gq_iload_n (pc := 1) dX12_as_1 rfl ?_
  refine gq_rV1i (pc := 2) dX12_as_2 cv_X12_66 sh_76 (k_isEye _) ⟨by decide, by decide⟩ rfl rfl (Nat.le_of_ble_eq_true rfl) ?_
  refine gq_if_eq (pc := 5) 18 dX12_as_5 (by decide) (fun h_5 => ?_) (fun h_5 => ?_)
  · refine gq_aload_n (pc := 18) dX12_as_18 rfl ?_
    refine gq_ldc (pc := 19) dX12_as_19 kn_X12_53 ?_
    refine gq_rV1i (pc := 21) dX12_as_21 cv_X12_54 sh_76 (k_errs (j := 1) (by decide) (by decide)) ⟨by decide, by decide⟩ rfl rfl (Nat.le_of_ble_eq_true rfl) ?_
    exact gq_iret (pc := 24) rfl dX12_as_24 ⟨rfl, rfl⟩
  · refine gq_iload_n (pc := 8) dX12_as_8 rfl ?_
    refine gq_iconst (pc := 9) dX12_as_9 kc_0 ?_
    refine gq_bipush (pc := 10) dX12_as_10 kb_6 ?_
    refine gq_rS3i (pc := 12) dX12_as_12 cs_X12_41 (k_in _ _ _) ⟨by decide, by decide⟩ (Nat.le_of_ble_eq_true rfl) ?_
    refine gq_if_ne (pc := 15) 25 dX12_as_15 (by decide) (fun h_15 => ?_) (fun h_15 => ?_)
    · exact (h.elim h_5 h_15).elim
    · refine gq_aload_n (pc := 18) dX12_as_18 rfl ?_
      refine gq_ldc (pc := 19) dX12_as_19 kn_X12_53 ?_
      refine gq_rV1i (pc := 21) dX12_as_21 cv_X12_54 sh_76 (k_errs (j := 1) (by decide) (by decide)) ⟨by decide, by decide⟩ rfl rfl (Nat.le_of_ble_eq_true rfl) ?_
      exact gq_iret (pc := 24) rfl dX12_as_24 ⟨rfl, rfl⟩
end P5
