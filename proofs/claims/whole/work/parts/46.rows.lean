section R8
variable {X : ge_X} {y : ge_Y} {d : Nat} {Q : Option Value → ge_G → Prop} {l : List (Nat × Value)} {rest : List Value} {g : ge_G} {pw : Nat} {r x hb : Nat → Int32} {pc : Nat}
theorem kq_copy {idx p0 p1 n0 n1 : Nat} {sp dp n : Int32} {a b m : Nat} (q0 : p0 < pw ∨ pw + 9 < p0) (q1 : p1 < pw ∨ pw + 9 < p1) (dg : decode y.2.1 pc = .ok (.invokestatic idx, 3)) (hc : ge_cc y.1.cls idx) (hs0 : ge_SH[p0]? = some (.inr (.inl n0))) (hs1 : ge_SH[p1]? = some (.inr (.inl n1))) (hsp : sp = nI a) (hdp : dp = nI b) (hm : n = nI m) (h4 : a + m ≤ n0) (h5 : b + m ≤ n1) (hn : n0 < 1000 ∧ n1 < 1000) (hz : (p0 ≠ 17 ∧ p0 ≠ 76) ∧ p1 ≠ 17 ∧ p1 ≠ 76) (hd : 1 ≤ d) (hr : (rest.map fun v => v.category).sum ≤ 8)
    (kk : ge_B X ge_SH y d Q (pc + 3) l rest (ge_k (ge_row g p1 (va_cpy (g p0) (g p1) a b m)) pw r x hb)) : ge_B X ge_SH y d Q pc l (.int n :: .int dp :: .ref (ge_ad X.1 p1) :: .int sp :: .ref (ge_ad X.1 p0) :: rest) (ge_k g pw r x hb) :=
  gq_copy dg hc hs0 hs1 hsp hdp hm h4 h5 hn hz hd hr (by rw [ge_k_uo q1, ge_k_o _ _ _ _ _ q0, ge_k_o _ _ _ _ _ q1]; exact kk)
end R8
section R9
variable {X : ge_X} {g : ge_G} {r x hb : Nat → Int32} {c : Nat}
def p_hold (sz f n : Int32) : Int32 := if f < 0 then 0 else if n < 0 then 0 else if sz - n < f then 0 else 1
def p_low (b v : Int32) : Int32 := if b = 8 then v &&& 255 else if b = 16 then v &&& 65535 else v
theorem p_min_nI {a b : Nat} (h : a ≤ b) (hb : b < 2 ^ 31) : p_min (nI a) (nI b) = nI a := by
  unfold p_min
  rw [if_neg (nI_nlt h hb)]
set_option maxHeartbeats 400000 in
theorem r_add_58 {v : Int32} {n : Nat} (hn : g 58 1 = nI n) (h : n < 50) : ge_N X ge_SH YX7_add 0 [.ref (ge_ad X.1 58), .int v] (ge_k g 25 r x hb) none (ge_k (ge_up (ge_up g 59 n v) 58 1 (nI (n + 1))) 25 r x hb) := by
  refine gq_ofB (l := [(0, .ref (ge_ad X.1 58)), (1, .int v)]) (by decide) (Nat.le_of_ble_eq_true rfl) rfl ?_
  refine gq_aload_n (pc := 0) dX7_add_0 rfl ?_
  refine kq_geto (pw := 25) (pc := 1) (by decide) dX7_add_1 fl_X7_13_7 sh_58 rfl (by unfold ge_Z; omega) ?_
  refine gq_aload_n (pc := 4) dX7_add_4 rfl ?_
  refine gq_getr (pc := 5) dX7_add_5 fl_X7_7_7 sh_58 rfl ?_
  refine gq_alen (pc := 8) (v := 50) dX7_add_8 sh_59 rfl ?_
  refine gq_ic_ge (pc := 9) 32 dX7_add_9 (by decide) (fun h_9 => ?_) (fun h_9 => ?_)
  · exact absurd ((nI_leI (a := 50) (by omega) (by omega)).mp (hn ▸ h_9)) (by omega)
  · refine gq_aload_n (pc := 12) dX7_add_12 rfl ?_
    refine gq_getr (pc := 13) dX7_add_13 fl_X7_7_7 sh_58 rfl ?_
    refine gq_aload_n (pc := 16) dX7_add_16 rfl ?_
    refine kq_geto (pw := 25) (pc := 17) (by decide) dX7_add_17 fl_X7_13_7 sh_58 rfl (by unfold ge_Z; omega) ?_
    refine gq_iload_n (pc := 20) dX7_add_20 rfl ?_
    refine kq_asto (pw := 25) (pc := 21) (by decide) dX7_add_21 sh_59 hn (by first | decide | omega) (by decide) ?_
    refine gq_aload_n (pc := 22) dX7_add_22 rfl ?_
    refine gq_dup (pc := 23) dX7_add_23 rfl ?_
    refine kq_geto (pw := 25) (pc := 24) (by decide) dX7_add_24 fl_X7_13_7 sh_58 rfl (by unfold ge_Z; omega) ?_
    refine gq_iconst (pc := 27) dX7_add_27 kc_1 ?_
    rw [show ge_up g 59 n v 58 1 = nI n from hn]
    refine gq_iadd (pc := 28) dX7_add_28 ?_
    rw [nI_1]
    refine kq_puto (pw := 25) (pc := 29) (by decide) dX7_add_29 fp_X7_13_7 sh_58 rfl ?_
    exact gq_vret (pc := 32) rfl dX7_add_32 ⟨rfl, rfl⟩
set_option maxHeartbeats 400000 in
theorem r_add_62 {v : Int32} {n : Nat} (hn : g 62 1 = nI n) (h : n < 20) : ge_N X ge_SH YX7_add 0 [.ref (ge_ad X.1 62), .int v] (ge_k g 25 r x hb) none (ge_k (ge_up (ge_up g 63 n v) 62 1 (nI (n + 1))) 25 r x hb) := by
  refine gq_ofB (l := [(0, .ref (ge_ad X.1 62)), (1, .int v)]) (by decide) (Nat.le_of_ble_eq_true rfl) rfl ?_
  refine gq_aload_n (pc := 0) dX7_add_0 rfl ?_
  refine kq_geto (pw := 25) (pc := 1) (by decide) dX7_add_1 fl_X7_13_7 sh_62 rfl (by unfold ge_Z; omega) ?_
  refine gq_aload_n (pc := 4) dX7_add_4 rfl ?_
  refine gq_getr (pc := 5) dX7_add_5 fl_X7_7_7 sh_62 rfl ?_
  refine gq_alen (pc := 8) (v := 20) dX7_add_8 sh_63 rfl ?_
  refine gq_ic_ge (pc := 9) 32 dX7_add_9 (by decide) (fun h_9 => ?_) (fun h_9 => ?_)
  · exact absurd ((nI_leI (a := 20) (by omega) (by omega)).mp (hn ▸ h_9)) (by omega)
  · refine gq_aload_n (pc := 12) dX7_add_12 rfl ?_
    refine gq_getr (pc := 13) dX7_add_13 fl_X7_7_7 sh_62 rfl ?_
    refine gq_aload_n (pc := 16) dX7_add_16 rfl ?_
    refine kq_geto (pw := 25) (pc := 17) (by decide) dX7_add_17 fl_X7_13_7 sh_62 rfl (by unfold ge_Z; omega) ?_
    refine gq_iload_n (pc := 20) dX7_add_20 rfl ?_
    refine kq_asto (pw := 25) (pc := 21) (by decide) dX7_add_21 sh_63 hn (by first | decide | omega) (by decide) ?_
    refine gq_aload_n (pc := 22) dX7_add_22 rfl ?_
    refine gq_dup (pc := 23) dX7_add_23 rfl ?_
    refine kq_geto (pw := 25) (pc := 24) (by decide) dX7_add_24 fl_X7_13_7 sh_62 rfl (by unfold ge_Z; omega) ?_
    refine gq_iconst (pc := 27) dX7_add_27 kc_1 ?_
    rw [show ge_up g 63 n v 62 1 = nI n from hn]
    refine gq_iadd (pc := 28) dX7_add_28 ?_
    rw [nI_1]
    refine kq_puto (pw := 25) (pc := 29) (by decide) dX7_add_29 fp_X7_13_7 sh_62 rfl ?_
    exact gq_vret (pc := 32) rfl dX7_add_32 ⟨rfl, rfl⟩
set_option maxHeartbeats 400000 in
theorem r_holds_1 (f n : Int32) : ge_N X ge_SH YX7_holds 0 [.ref (ge_ad X.1 1), .int f, .int n] (ge_k g 25 r x hb) (some (.int (p_hold (g 1 1) f n))) (ge_k g 25 r x hb) := by
  refine gq_ofB (l := [(0, .ref (ge_ad X.1 1)), (1, .int f), (2, .int n)]) (by decide) (Nat.le_of_ble_eq_true rfl) rfl ?_
  refine gq_iload_n (pc := 0) dX7_holds_0 rfl ?_
  refine gq_if_lt (pc := 1) 22 dX7_holds_1 (by decide) (fun h_1 => ?_) (fun h_1 => ?_)
  · refine gq_iconst (pc := 22) dX7_holds_22 kc_0 ?_
    exact gq_zret (pc := 23) rfl rfl dX7_holds_23 ⟨by unfold p_hold; first | rw [if_pos h_1] | (rw [if_neg h_1]; first | rw [if_pos h_5] | (rw [if_neg h_5]; first | rw [if_pos h_15] | rw [if_neg h_15])), rfl⟩
  · refine gq_iload_n (pc := 4) dX7_holds_4 rfl ?_
    refine gq_if_lt (pc := 5) 22 dX7_holds_5 (by decide) (fun h_5 => ?_) (fun h_5 => ?_)
    · refine gq_iconst (pc := 22) dX7_holds_22 kc_0 ?_
      exact gq_zret (pc := 23) rfl rfl dX7_holds_23 ⟨by unfold p_hold; first | rw [if_pos h_1] | (rw [if_neg h_1]; first | rw [if_pos h_5] | (rw [if_neg h_5]; first | rw [if_pos h_15] | rw [if_neg h_15])), rfl⟩
    · refine gq_iload_n (pc := 8) dX7_holds_8 rfl ?_
      refine gq_aload_n (pc := 9) dX7_holds_9 rfl ?_
      refine kq_geto (pw := 25) (pc := 10) (by decide) dX7_holds_10 fl_X7_13_7 sh_1 rfl (by unfold ge_Z; omega) ?_
      refine gq_iload_n (pc := 13) dX7_holds_13 rfl ?_
      refine gq_isub (pc := 14) dX7_holds_14 ?_
      refine gq_ic_gt (pc := 15) 22 dX7_holds_15 (by decide) (fun h_15 => ?_) (fun h_15 => ?_)
      · refine gq_iconst (pc := 22) dX7_holds_22 kc_0 ?_
        exact gq_zret (pc := 23) rfl rfl dX7_holds_23 ⟨by unfold p_hold; first | rw [if_pos h_1] | (rw [if_neg h_1]; first | rw [if_pos h_5] | (rw [if_neg h_5]; first | rw [if_pos h_15] | rw [if_neg h_15])), rfl⟩
      · refine gq_iconst (pc := 18) dX7_holds_18 kc_1 ?_
        refine gq_goto (pc := 19) 23 dX7_holds_19 (by decide) ?_
        exact gq_zret (pc := 23) rfl rfl dX7_holds_23 ⟨by unfold p_hold; first | rw [if_pos h_1] | (rw [if_neg h_1]; first | rw [if_pos h_5] | (rw [if_neg h_5]; first | rw [if_pos h_15] | rw [if_neg h_15])), rfl⟩
set_option maxHeartbeats 400000 in
theorem r_holds_67 (f n : Int32) : ge_N X ge_SH YX7_holds 0 [.ref (ge_ad X.1 67), .int f, .int n] (ge_k g 25 r x hb) (some (.int (p_hold (g 67 1) f n))) (ge_k g 25 r x hb) := by
  refine gq_ofB (l := [(0, .ref (ge_ad X.1 67)), (1, .int f), (2, .int n)]) (by decide) (Nat.le_of_ble_eq_true rfl) rfl ?_
  refine gq_iload_n (pc := 0) dX7_holds_0 rfl ?_
  refine gq_if_lt (pc := 1) 22 dX7_holds_1 (by decide) (fun h_1 => ?_) (fun h_1 => ?_)
  · refine gq_iconst (pc := 22) dX7_holds_22 kc_0 ?_
    exact gq_zret (pc := 23) rfl rfl dX7_holds_23 ⟨by unfold p_hold; first | rw [if_pos h_1] | (rw [if_neg h_1]; first | rw [if_pos h_5] | (rw [if_neg h_5]; first | rw [if_pos h_15] | rw [if_neg h_15])), rfl⟩
  · refine gq_iload_n (pc := 4) dX7_holds_4 rfl ?_
    refine gq_if_lt (pc := 5) 22 dX7_holds_5 (by decide) (fun h_5 => ?_) (fun h_5 => ?_)
    · refine gq_iconst (pc := 22) dX7_holds_22 kc_0 ?_
      exact gq_zret (pc := 23) rfl rfl dX7_holds_23 ⟨by unfold p_hold; first | rw [if_pos h_1] | (rw [if_neg h_1]; first | rw [if_pos h_5] | (rw [if_neg h_5]; first | rw [if_pos h_15] | rw [if_neg h_15])), rfl⟩
    · refine gq_iload_n (pc := 8) dX7_holds_8 rfl ?_
      refine gq_aload_n (pc := 9) dX7_holds_9 rfl ?_
      refine kq_geto (pw := 25) (pc := 10) (by decide) dX7_holds_10 fl_X7_13_7 sh_67 rfl (by unfold ge_Z; omega) ?_
      refine gq_iload_n (pc := 13) dX7_holds_13 rfl ?_
      refine gq_isub (pc := 14) dX7_holds_14 ?_
      refine gq_ic_gt (pc := 15) 22 dX7_holds_15 (by decide) (fun h_15 => ?_) (fun h_15 => ?_)
      · refine gq_iconst (pc := 22) dX7_holds_22 kc_0 ?_
        exact gq_zret (pc := 23) rfl rfl dX7_holds_23 ⟨by unfold p_hold; first | rw [if_pos h_1] | (rw [if_neg h_1]; first | rw [if_pos h_5] | (rw [if_neg h_5]; first | rw [if_pos h_15] | rw [if_neg h_15])), rfl⟩
      · refine gq_iconst (pc := 18) dX7_holds_18 kc_1 ?_
        refine gq_goto (pc := 19) 23 dX7_holds_19 (by decide) ?_
        exact gq_zret (pc := 23) rfl rfl dX7_holds_23 ⟨by unfold p_hold; first | rw [if_pos h_1] | (rw [if_neg h_1]; first | rw [if_pos h_5] | (rw [if_neg h_5]; first | rw [if_pos h_15] | rw [if_neg h_15])), rfl⟩
set_option maxHeartbeats 400000 in
theorem r_holds_69 (f n : Int32) : ge_N X ge_SH YX7_holds 0 [.ref (ge_ad X.1 69), .int f, .int n] (ge_k g 25 r x hb) (some (.int (p_hold (g 69 1) f n))) (ge_k g 25 r x hb) := by
  refine gq_ofB (l := [(0, .ref (ge_ad X.1 69)), (1, .int f), (2, .int n)]) (by decide) (Nat.le_of_ble_eq_true rfl) rfl ?_
  refine gq_iload_n (pc := 0) dX7_holds_0 rfl ?_
  refine gq_if_lt (pc := 1) 22 dX7_holds_1 (by decide) (fun h_1 => ?_) (fun h_1 => ?_)
  · refine gq_iconst (pc := 22) dX7_holds_22 kc_0 ?_
    exact gq_zret (pc := 23) rfl rfl dX7_holds_23 ⟨by unfold p_hold; first | rw [if_pos h_1] | (rw [if_neg h_1]; first | rw [if_pos h_5] | (rw [if_neg h_5]; first | rw [if_pos h_15] | rw [if_neg h_15])), rfl⟩
  · refine gq_iload_n (pc := 4) dX7_holds_4 rfl ?_
    refine gq_if_lt (pc := 5) 22 dX7_holds_5 (by decide) (fun h_5 => ?_) (fun h_5 => ?_)
    · refine gq_iconst (pc := 22) dX7_holds_22 kc_0 ?_
      exact gq_zret (pc := 23) rfl rfl dX7_holds_23 ⟨by unfold p_hold; first | rw [if_pos h_1] | (rw [if_neg h_1]; first | rw [if_pos h_5] | (rw [if_neg h_5]; first | rw [if_pos h_15] | rw [if_neg h_15])), rfl⟩
    · refine gq_iload_n (pc := 8) dX7_holds_8 rfl ?_
      refine gq_aload_n (pc := 9) dX7_holds_9 rfl ?_
      refine kq_geto (pw := 25) (pc := 10) (by decide) dX7_holds_10 fl_X7_13_7 sh_69 rfl (by unfold ge_Z; omega) ?_
      refine gq_iload_n (pc := 13) dX7_holds_13 rfl ?_
      refine gq_isub (pc := 14) dX7_holds_14 ?_
      refine gq_ic_gt (pc := 15) 22 dX7_holds_15 (by decide) (fun h_15 => ?_) (fun h_15 => ?_)
      · refine gq_iconst (pc := 22) dX7_holds_22 kc_0 ?_
        exact gq_zret (pc := 23) rfl rfl dX7_holds_23 ⟨by unfold p_hold; first | rw [if_pos h_1] | (rw [if_neg h_1]; first | rw [if_pos h_5] | (rw [if_neg h_5]; first | rw [if_pos h_15] | rw [if_neg h_15])), rfl⟩
      · refine gq_iconst (pc := 18) dX7_holds_18 kc_1 ?_
        refine gq_goto (pc := 19) 23 dX7_holds_19 (by decide) ?_
        exact gq_zret (pc := 23) rfl rfl dX7_holds_23 ⟨by unfold p_hold; first | rw [if_pos h_1] | (rw [if_neg h_1]; first | rw [if_pos h_5] | (rw [if_neg h_5]; first | rw [if_pos h_15] | rw [if_neg h_15])), rfl⟩
set_option maxHeartbeats 400000 in
theorem r_holds_71 (f n : Int32) : ge_N X ge_SH YX7_holds 0 [.ref (ge_ad X.1 71), .int f, .int n] (ge_k g 25 r x hb) (some (.int (p_hold (g 71 1) f n))) (ge_k g 25 r x hb) := by
  refine gq_ofB (l := [(0, .ref (ge_ad X.1 71)), (1, .int f), (2, .int n)]) (by decide) (Nat.le_of_ble_eq_true rfl) rfl ?_
  refine gq_iload_n (pc := 0) dX7_holds_0 rfl ?_
  refine gq_if_lt (pc := 1) 22 dX7_holds_1 (by decide) (fun h_1 => ?_) (fun h_1 => ?_)
  · refine gq_iconst (pc := 22) dX7_holds_22 kc_0 ?_
    exact gq_zret (pc := 23) rfl rfl dX7_holds_23 ⟨by unfold p_hold; first | rw [if_pos h_1] | (rw [if_neg h_1]; first | rw [if_pos h_5] | (rw [if_neg h_5]; first | rw [if_pos h_15] | rw [if_neg h_15])), rfl⟩
  · refine gq_iload_n (pc := 4) dX7_holds_4 rfl ?_
    refine gq_if_lt (pc := 5) 22 dX7_holds_5 (by decide) (fun h_5 => ?_) (fun h_5 => ?_)
    · refine gq_iconst (pc := 22) dX7_holds_22 kc_0 ?_
      exact gq_zret (pc := 23) rfl rfl dX7_holds_23 ⟨by unfold p_hold; first | rw [if_pos h_1] | (rw [if_neg h_1]; first | rw [if_pos h_5] | (rw [if_neg h_5]; first | rw [if_pos h_15] | rw [if_neg h_15])), rfl⟩
    · refine gq_iload_n (pc := 8) dX7_holds_8 rfl ?_
      refine gq_aload_n (pc := 9) dX7_holds_9 rfl ?_
      refine kq_geto (pw := 25) (pc := 10) (by decide) dX7_holds_10 fl_X7_13_7 sh_71 rfl (by unfold ge_Z; omega) ?_
      refine gq_iload_n (pc := 13) dX7_holds_13 rfl ?_
      refine gq_isub (pc := 14) dX7_holds_14 ?_
      refine gq_ic_gt (pc := 15) 22 dX7_holds_15 (by decide) (fun h_15 => ?_) (fun h_15 => ?_)
      · refine gq_iconst (pc := 22) dX7_holds_22 kc_0 ?_
        exact gq_zret (pc := 23) rfl rfl dX7_holds_23 ⟨by unfold p_hold; first | rw [if_pos h_1] | (rw [if_neg h_1]; first | rw [if_pos h_5] | (rw [if_neg h_5]; first | rw [if_pos h_15] | rw [if_neg h_15])), rfl⟩
      · refine gq_iconst (pc := 18) dX7_holds_18 kc_1 ?_
        refine gq_goto (pc := 19) 23 dX7_holds_19 (by decide) ?_
        exact gq_zret (pc := 23) rfl rfl dX7_holds_23 ⟨by unfold p_hold; first | rw [if_pos h_1] | (rw [if_neg h_1]; first | rw [if_pos h_5] | (rw [if_neg h_5]; first | rw [if_pos h_15] | rw [if_neg h_15])), rfl⟩
set_option maxHeartbeats 400000 in
theorem r_holds_73 (f n : Int32) : ge_N X ge_SH YX7_holds 0 [.ref (ge_ad X.1 73), .int f, .int n] (ge_k g 25 r x hb) (some (.int (p_hold (g 73 1) f n))) (ge_k g 25 r x hb) := by
  refine gq_ofB (l := [(0, .ref (ge_ad X.1 73)), (1, .int f), (2, .int n)]) (by decide) (Nat.le_of_ble_eq_true rfl) rfl ?_
  refine gq_iload_n (pc := 0) dX7_holds_0 rfl ?_
  refine gq_if_lt (pc := 1) 22 dX7_holds_1 (by decide) (fun h_1 => ?_) (fun h_1 => ?_)
  · refine gq_iconst (pc := 22) dX7_holds_22 kc_0 ?_
    exact gq_zret (pc := 23) rfl rfl dX7_holds_23 ⟨by unfold p_hold; first | rw [if_pos h_1] | (rw [if_neg h_1]; first | rw [if_pos h_5] | (rw [if_neg h_5]; first | rw [if_pos h_15] | rw [if_neg h_15])), rfl⟩
  · refine gq_iload_n (pc := 4) dX7_holds_4 rfl ?_
    refine gq_if_lt (pc := 5) 22 dX7_holds_5 (by decide) (fun h_5 => ?_) (fun h_5 => ?_)
    · refine gq_iconst (pc := 22) dX7_holds_22 kc_0 ?_
      exact gq_zret (pc := 23) rfl rfl dX7_holds_23 ⟨by unfold p_hold; first | rw [if_pos h_1] | (rw [if_neg h_1]; first | rw [if_pos h_5] | (rw [if_neg h_5]; first | rw [if_pos h_15] | rw [if_neg h_15])), rfl⟩
    · refine gq_iload_n (pc := 8) dX7_holds_8 rfl ?_
      refine gq_aload_n (pc := 9) dX7_holds_9 rfl ?_
      refine kq_geto (pw := 25) (pc := 10) (by decide) dX7_holds_10 fl_X7_13_7 sh_73 rfl (by unfold ge_Z; omega) ?_
      refine gq_iload_n (pc := 13) dX7_holds_13 rfl ?_
      refine gq_isub (pc := 14) dX7_holds_14 ?_
      refine gq_ic_gt (pc := 15) 22 dX7_holds_15 (by decide) (fun h_15 => ?_) (fun h_15 => ?_)
      · refine gq_iconst (pc := 22) dX7_holds_22 kc_0 ?_
        exact gq_zret (pc := 23) rfl rfl dX7_holds_23 ⟨by unfold p_hold; first | rw [if_pos h_1] | (rw [if_neg h_1]; first | rw [if_pos h_5] | (rw [if_neg h_5]; first | rw [if_pos h_15] | rw [if_neg h_15])), rfl⟩
      · refine gq_iconst (pc := 18) dX7_holds_18 kc_1 ?_
        refine gq_goto (pc := 19) 23 dX7_holds_19 (by decide) ?_
        exact gq_zret (pc := 23) rfl rfl dX7_holds_23 ⟨by unfold p_hold; first | rw [if_pos h_1] | (rw [if_neg h_1]; first | rw [if_pos h_5] | (rw [if_neg h_5]; first | rw [if_pos h_15] | rw [if_neg h_15])), rfl⟩
set_option maxHeartbeats 400000 in
theorem r_low_67 (v : Int32) : ge_N X ge_SH YX7_lowestBits 0 [.ref (ge_ad X.1 67), .int v] (ge_k g 25 r x hb) (some (.int (p_low (g 67 2) v))) (ge_k g 25 r x hb) := by
  refine gq_ofB (l := [(0, .ref (ge_ad X.1 67)), (1, .int v)]) (by decide) (Nat.le_of_ble_eq_true rfl) rfl ?_
  refine gq_aload_n (pc := 0) dX7_lowestBits_0 rfl ?_
  refine kq_geto (pw := 25) (pc := 1) (by decide) dX7_lowestBits_1 fl_X7_29_7 sh_67 rfl (by unfold ge_Z; omega) ?_
  refine gq_bipush (pc := 4) dX7_lowestBits_4 kb_8 ?_
  refine gq_ic_ne (pc := 6) 17 dX7_lowestBits_6 (by decide) (fun h_6 => ?_) (fun h_6 => ?_)
  · refine gq_aload_n (pc := 17) dX7_lowestBits_17 rfl ?_
    refine kq_geto (pw := 25) (pc := 18) (by decide) dX7_lowestBits_18 fl_X7_29_7 sh_67 rfl (by unfold ge_Z; omega) ?_
    refine gq_bipush (pc := 21) dX7_lowestBits_21 kb_16 ?_
    refine gq_ic_ne (pc := 23) 33 dX7_lowestBits_23 (by decide) (fun h_23 => ?_) (fun h_23 => ?_)
    · refine gq_iload_n (pc := 33) dX7_lowestBits_33 rfl ?_
      exact gq_iret (pc := 34) rfl dX7_lowestBits_34 ⟨by unfold p_low; first | rw [if_pos h_6] | (rw [if_neg h_6]; first | rw [if_pos h_23] | rw [if_neg h_23]), rfl⟩
    · refine gq_iload_n (pc := 26) dX7_lowestBits_26 rfl ?_
      refine gq_ldc (pc := 27) dX7_lowestBits_27 kn_X7_32 ?_
      refine gq_iand (pc := 29) dX7_lowestBits_29 ?_
      refine gq_goto (pc := 30) 34 dX7_lowestBits_30 (by decide) ?_
      exact gq_iret (pc := 34) rfl dX7_lowestBits_34 ⟨by unfold p_low; first | rw [if_pos h_6] | (rw [if_neg h_6]; first | rw [if_pos h_23] | rw [if_neg h_23]), rfl⟩
  · refine gq_iload_n (pc := 9) dX7_lowestBits_9 rfl ?_
    refine gq_sipush (pc := 10) dX7_lowestBits_10 kq_255 ?_
    refine gq_iand (pc := 13) dX7_lowestBits_13 ?_
    refine gq_goto (pc := 14) 34 dX7_lowestBits_14 (by decide) ?_
    exact gq_iret (pc := 34) rfl dX7_lowestBits_34 ⟨by unfold p_low; first | rw [if_pos h_6] | (rw [if_neg h_6]; first | rw [if_pos h_23] | rw [if_neg h_23]), rfl⟩
set_option maxHeartbeats 1000000 in
theorem r_clear_67 {b s : Int32} {n : Nat} (hs : s = nI n) (hn : n ≤ 40) : ge_N X ge_SH YX7_clearTo 0 [.ref (ge_ad X.1 67), .int b, .int s] (ge_k g 25 r x hb) none (ge_k (ge_row (ge_up (ge_up g 67 2 b) 67 1 s) 68 (fun j => if j < n then 0 else g 68 j)) 25 r x hb) := by
  refine gq_ofB (l := [(0, .ref (ge_ad X.1 67)), (1, .int b), (2, .int s)]) (by decide) (Nat.le_of_ble_eq_true rfl) rfl ?_
  have key : ∀ (m i : Nat), i + m = n → ge_B X ge_SH YX7_clearTo 0 (fun v2 g2 => v2 = none ∧ g2 = ge_k (ge_row (ge_up (ge_up g 67 2 b) 67 1 s) 68 (fun j => if j < n then 0 else g 68 j)) 25 r x hb) 12 [(3, .int (nI i)), (0, .ref (ge_ad X.1 67)), (1, .int b), (2, .int s)] [] (ge_k (ge_row (ge_up (ge_up g 67 2 b) 67 1 s) 68 (fun j => if j < i then 0 else g 68 j)) 25 r x hb) := by
    intro m
    induction m with
    | zero =>
      intro i hi
      obtain rfl : i = n := hi
      refine gq_iload_n (pc := 12) dX7_clearTo_12 rfl ?_
      refine gq_aload_n (pc := 13) dX7_clearTo_13 rfl ?_
      refine kq_geto (pw := 25) (pc := 14) (by decide) dX7_clearTo_14 fl_X7_13_7 sh_67 rfl (by unfold ge_Z; omega) ?_
      rw [show ge_row (ge_up (ge_up g 67 2 b) 67 1 s) 68 (fun j => if j < i then 0 else g 68 j) 67 1 = s from by rw [ge_row_ne _ _ (by decide), ge_up_self]]
      refine gq_ic_ge (pc := 17) 33 dX7_clearTo_17 (by decide) (fun h_17 => ?_) (fun h_17 => ?_)
      · exact gq_vret (pc := 33) rfl dX7_clearTo_33 ⟨rfl, rfl⟩
      · exact absurd (by rw [hs]; exact Int32.le_refl _) h_17
    | succ m ih =>
      intro i hi
      refine gq_iload_n (pc := 12) dX7_clearTo_12 rfl ?_
      refine gq_aload_n (pc := 13) dX7_clearTo_13 rfl ?_
      refine kq_geto (pw := 25) (pc := 14) (by decide) dX7_clearTo_14 fl_X7_13_7 sh_67 rfl (by unfold ge_Z; omega) ?_
      rw [show ge_row (ge_up (ge_up g 67 2 b) 67 1 s) 68 (fun j => if j < i then 0 else g 68 j) 67 1 = s from by rw [ge_row_ne _ _ (by decide), ge_up_self]]
      refine gq_ic_ge (pc := 17) 33 dX7_clearTo_17 (by decide) (fun h_17 => ?_) (fun h_17 => ?_)
      · exact absurd ((nI_leI (by omega) (by omega)).mp (hs ▸ h_17)) (by omega)
      · refine gq_aload_n (pc := 20) dX7_clearTo_20 rfl ?_
        refine gq_getr (pc := 21) dX7_clearTo_21 fl_X7_7_7 sh_67 rfl ?_
        refine gq_iload_n (pc := 24) dX7_clearTo_24 rfl ?_
        refine gq_iconst (pc := 25) dX7_clearTo_25 kc_0 ?_
        refine kq_asto (pw := 25) (pc := 26) (by decide) dX7_clearTo_26 sh_68 (by first | assumption | rfl) (by first | decide | omega) (by decide) ?_
        refine gq_iinc (pc := 27) (l' := [(3, _), (0, _), (1, _), (2, _)]) dX7_clearTo_27 rfl (ge_inc1 i) (by decide) rfl ?_
        refine gq_goto (pc := 30) 12 dX7_clearTo_30 (by decide) ?_
        refine gq_tog ?_ (ih (i + 1) (by omega))
        rw [ge_up17]
        congr 2
        funext j
        by_cases hj : j = i
        · subst hj; simp [upd]
        · by_cases h2 : j < i
          · simp [upd, hj, h2, Nat.lt_succ_of_lt h2]
          · have h3 : ¬ j < i + 1 := by omega
            simp [upd, hj, h2, h3]
  refine gq_aload_n (pc := 0) dX7_clearTo_0 rfl ?_
  refine gq_iload_n (pc := 1) dX7_clearTo_1 rfl ?_
  refine kq_puto (pw := 25) (pc := 2) (by decide) dX7_clearTo_2 fp_X7_29_7 sh_67 rfl ?_
  refine gq_aload_n (pc := 5) dX7_clearTo_5 rfl ?_
  refine gq_iload_n (pc := 6) dX7_clearTo_6 rfl ?_
  refine kq_puto (pw := 25) (pc := 7) (by decide) dX7_clearTo_7 fp_X7_13_7 sh_67 rfl ?_
  refine gq_iconst (pc := 10) dX7_clearTo_10 kc_0 ?_
  refine gq_istore_n (pc := 11) (l' := [(3, _), (0, _), (1, _), (2, _)]) dX7_clearTo_11 (by decide) rfl ?_
  refine gq_tog ?_ (key n 0 (by omega))
  congr 1
  funext q
  by_cases hq : q = 68
  · subst hq; rw [ge_row_self]; funext j; simp [ge_up, ge_row]
  · rw [ge_row_ne _ _ hq]
set_option maxHeartbeats 400000 in
theorem r_low_69 (v : Int32) : ge_N X ge_SH YX7_lowestBits 0 [.ref (ge_ad X.1 69), .int v] (ge_k g 25 r x hb) (some (.int (p_low (g 69 2) v))) (ge_k g 25 r x hb) := by
  refine gq_ofB (l := [(0, .ref (ge_ad X.1 69)), (1, .int v)]) (by decide) (Nat.le_of_ble_eq_true rfl) rfl ?_
  refine gq_aload_n (pc := 0) dX7_lowestBits_0 rfl ?_
  refine kq_geto (pw := 25) (pc := 1) (by decide) dX7_lowestBits_1 fl_X7_29_7 sh_69 rfl (by unfold ge_Z; omega) ?_
  refine gq_bipush (pc := 4) dX7_lowestBits_4 kb_8 ?_
  refine gq_ic_ne (pc := 6) 17 dX7_lowestBits_6 (by decide) (fun h_6 => ?_) (fun h_6 => ?_)
  · refine gq_aload_n (pc := 17) dX7_lowestBits_17 rfl ?_
    refine kq_geto (pw := 25) (pc := 18) (by decide) dX7_lowestBits_18 fl_X7_29_7 sh_69 rfl (by unfold ge_Z; omega) ?_
    refine gq_bipush (pc := 21) dX7_lowestBits_21 kb_16 ?_
    refine gq_ic_ne (pc := 23) 33 dX7_lowestBits_23 (by decide) (fun h_23 => ?_) (fun h_23 => ?_)
    · refine gq_iload_n (pc := 33) dX7_lowestBits_33 rfl ?_
      exact gq_iret (pc := 34) rfl dX7_lowestBits_34 ⟨by unfold p_low; first | rw [if_pos h_6] | (rw [if_neg h_6]; first | rw [if_pos h_23] | rw [if_neg h_23]), rfl⟩
    · refine gq_iload_n (pc := 26) dX7_lowestBits_26 rfl ?_
      refine gq_ldc (pc := 27) dX7_lowestBits_27 kn_X7_32 ?_
      refine gq_iand (pc := 29) dX7_lowestBits_29 ?_
      refine gq_goto (pc := 30) 34 dX7_lowestBits_30 (by decide) ?_
      exact gq_iret (pc := 34) rfl dX7_lowestBits_34 ⟨by unfold p_low; first | rw [if_pos h_6] | (rw [if_neg h_6]; first | rw [if_pos h_23] | rw [if_neg h_23]), rfl⟩
  · refine gq_iload_n (pc := 9) dX7_lowestBits_9 rfl ?_
    refine gq_sipush (pc := 10) dX7_lowestBits_10 kq_255 ?_
    refine gq_iand (pc := 13) dX7_lowestBits_13 ?_
    refine gq_goto (pc := 14) 34 dX7_lowestBits_14 (by decide) ?_
    exact gq_iret (pc := 34) rfl dX7_lowestBits_34 ⟨by unfold p_low; first | rw [if_pos h_6] | (rw [if_neg h_6]; first | rw [if_pos h_23] | rw [if_neg h_23]), rfl⟩
set_option maxHeartbeats 1000000 in
theorem r_clear_69 {b s : Int32} {n : Nat} (hs : s = nI n) (hn : n ≤ 40) : ge_N X ge_SH YX7_clearTo 0 [.ref (ge_ad X.1 69), .int b, .int s] (ge_k g 25 r x hb) none (ge_k (ge_row (ge_up (ge_up g 69 2 b) 69 1 s) 70 (fun j => if j < n then 0 else g 70 j)) 25 r x hb) := by
  refine gq_ofB (l := [(0, .ref (ge_ad X.1 69)), (1, .int b), (2, .int s)]) (by decide) (Nat.le_of_ble_eq_true rfl) rfl ?_
  have key : ∀ (m i : Nat), i + m = n → ge_B X ge_SH YX7_clearTo 0 (fun v2 g2 => v2 = none ∧ g2 = ge_k (ge_row (ge_up (ge_up g 69 2 b) 69 1 s) 70 (fun j => if j < n then 0 else g 70 j)) 25 r x hb) 12 [(3, .int (nI i)), (0, .ref (ge_ad X.1 69)), (1, .int b), (2, .int s)] [] (ge_k (ge_row (ge_up (ge_up g 69 2 b) 69 1 s) 70 (fun j => if j < i then 0 else g 70 j)) 25 r x hb) := by
    intro m
    induction m with
    | zero =>
      intro i hi
      obtain rfl : i = n := hi
      refine gq_iload_n (pc := 12) dX7_clearTo_12 rfl ?_
      refine gq_aload_n (pc := 13) dX7_clearTo_13 rfl ?_
      refine kq_geto (pw := 25) (pc := 14) (by decide) dX7_clearTo_14 fl_X7_13_7 sh_69 rfl (by unfold ge_Z; omega) ?_
      rw [show ge_row (ge_up (ge_up g 69 2 b) 69 1 s) 70 (fun j => if j < i then 0 else g 70 j) 69 1 = s from by rw [ge_row_ne _ _ (by decide), ge_up_self]]
      refine gq_ic_ge (pc := 17) 33 dX7_clearTo_17 (by decide) (fun h_17 => ?_) (fun h_17 => ?_)
      · exact gq_vret (pc := 33) rfl dX7_clearTo_33 ⟨rfl, rfl⟩
      · exact absurd (by rw [hs]; exact Int32.le_refl _) h_17
    | succ m ih =>
      intro i hi
      refine gq_iload_n (pc := 12) dX7_clearTo_12 rfl ?_
      refine gq_aload_n (pc := 13) dX7_clearTo_13 rfl ?_
      refine kq_geto (pw := 25) (pc := 14) (by decide) dX7_clearTo_14 fl_X7_13_7 sh_69 rfl (by unfold ge_Z; omega) ?_
      rw [show ge_row (ge_up (ge_up g 69 2 b) 69 1 s) 70 (fun j => if j < i then 0 else g 70 j) 69 1 = s from by rw [ge_row_ne _ _ (by decide), ge_up_self]]
      refine gq_ic_ge (pc := 17) 33 dX7_clearTo_17 (by decide) (fun h_17 => ?_) (fun h_17 => ?_)
      · exact absurd ((nI_leI (by omega) (by omega)).mp (hs ▸ h_17)) (by omega)
      · refine gq_aload_n (pc := 20) dX7_clearTo_20 rfl ?_
        refine gq_getr (pc := 21) dX7_clearTo_21 fl_X7_7_7 sh_69 rfl ?_
        refine gq_iload_n (pc := 24) dX7_clearTo_24 rfl ?_
        refine gq_iconst (pc := 25) dX7_clearTo_25 kc_0 ?_
        refine kq_asto (pw := 25) (pc := 26) (by decide) dX7_clearTo_26 sh_70 (by first | assumption | rfl) (by first | decide | omega) (by decide) ?_
        refine gq_iinc (pc := 27) (l' := [(3, _), (0, _), (1, _), (2, _)]) dX7_clearTo_27 rfl (ge_inc1 i) (by decide) rfl ?_
        refine gq_goto (pc := 30) 12 dX7_clearTo_30 (by decide) ?_
        refine gq_tog ?_ (ih (i + 1) (by omega))
        rw [ge_up17]
        congr 2
        funext j
        by_cases hj : j = i
        · subst hj; simp [upd]
        · by_cases h2 : j < i
          · simp [upd, hj, h2, Nat.lt_succ_of_lt h2]
          · have h3 : ¬ j < i + 1 := by omega
            simp [upd, hj, h2, h3]
  refine gq_aload_n (pc := 0) dX7_clearTo_0 rfl ?_
  refine gq_iload_n (pc := 1) dX7_clearTo_1 rfl ?_
  refine kq_puto (pw := 25) (pc := 2) (by decide) dX7_clearTo_2 fp_X7_29_7 sh_69 rfl ?_
  refine gq_aload_n (pc := 5) dX7_clearTo_5 rfl ?_
  refine gq_iload_n (pc := 6) dX7_clearTo_6 rfl ?_
  refine kq_puto (pw := 25) (pc := 7) (by decide) dX7_clearTo_7 fp_X7_13_7 sh_69 rfl ?_
  refine gq_iconst (pc := 10) dX7_clearTo_10 kc_0 ?_
  refine gq_istore_n (pc := 11) (l' := [(3, _), (0, _), (1, _), (2, _)]) dX7_clearTo_11 (by decide) rfl ?_
  refine gq_tog ?_ (key n 0 (by omega))
  congr 1
  funext q
  by_cases hq : q = 70
  · subst hq; rw [ge_row_self]; funext j; simp [ge_up, ge_row]
  · rw [ge_row_ne _ _ hq]
set_option maxHeartbeats 400000 in
theorem r_low_71 (v : Int32) : ge_N X ge_SH YX7_lowestBits 0 [.ref (ge_ad X.1 71), .int v] (ge_k g 25 r x hb) (some (.int (p_low (g 71 2) v))) (ge_k g 25 r x hb) := by
  refine gq_ofB (l := [(0, .ref (ge_ad X.1 71)), (1, .int v)]) (by decide) (Nat.le_of_ble_eq_true rfl) rfl ?_
  refine gq_aload_n (pc := 0) dX7_lowestBits_0 rfl ?_
  refine kq_geto (pw := 25) (pc := 1) (by decide) dX7_lowestBits_1 fl_X7_29_7 sh_71 rfl (by unfold ge_Z; omega) ?_
  refine gq_bipush (pc := 4) dX7_lowestBits_4 kb_8 ?_
  refine gq_ic_ne (pc := 6) 17 dX7_lowestBits_6 (by decide) (fun h_6 => ?_) (fun h_6 => ?_)
  · refine gq_aload_n (pc := 17) dX7_lowestBits_17 rfl ?_
    refine kq_geto (pw := 25) (pc := 18) (by decide) dX7_lowestBits_18 fl_X7_29_7 sh_71 rfl (by unfold ge_Z; omega) ?_
    refine gq_bipush (pc := 21) dX7_lowestBits_21 kb_16 ?_
    refine gq_ic_ne (pc := 23) 33 dX7_lowestBits_23 (by decide) (fun h_23 => ?_) (fun h_23 => ?_)
    · refine gq_iload_n (pc := 33) dX7_lowestBits_33 rfl ?_
      exact gq_iret (pc := 34) rfl dX7_lowestBits_34 ⟨by unfold p_low; first | rw [if_pos h_6] | (rw [if_neg h_6]; first | rw [if_pos h_23] | rw [if_neg h_23]), rfl⟩
    · refine gq_iload_n (pc := 26) dX7_lowestBits_26 rfl ?_
      refine gq_ldc (pc := 27) dX7_lowestBits_27 kn_X7_32 ?_
      refine gq_iand (pc := 29) dX7_lowestBits_29 ?_
      refine gq_goto (pc := 30) 34 dX7_lowestBits_30 (by decide) ?_
      exact gq_iret (pc := 34) rfl dX7_lowestBits_34 ⟨by unfold p_low; first | rw [if_pos h_6] | (rw [if_neg h_6]; first | rw [if_pos h_23] | rw [if_neg h_23]), rfl⟩
  · refine gq_iload_n (pc := 9) dX7_lowestBits_9 rfl ?_
    refine gq_sipush (pc := 10) dX7_lowestBits_10 kq_255 ?_
    refine gq_iand (pc := 13) dX7_lowestBits_13 ?_
    refine gq_goto (pc := 14) 34 dX7_lowestBits_14 (by decide) ?_
    exact gq_iret (pc := 34) rfl dX7_lowestBits_34 ⟨by unfold p_low; first | rw [if_pos h_6] | (rw [if_neg h_6]; first | rw [if_pos h_23] | rw [if_neg h_23]), rfl⟩
set_option maxHeartbeats 1000000 in
theorem r_clear_71 {b s : Int32} {n : Nat} (hs : s = nI n) (hn : n ≤ 40) : ge_N X ge_SH YX7_clearTo 0 [.ref (ge_ad X.1 71), .int b, .int s] (ge_k g 25 r x hb) none (ge_k (ge_row (ge_up (ge_up g 71 2 b) 71 1 s) 72 (fun j => if j < n then 0 else g 72 j)) 25 r x hb) := by
  refine gq_ofB (l := [(0, .ref (ge_ad X.1 71)), (1, .int b), (2, .int s)]) (by decide) (Nat.le_of_ble_eq_true rfl) rfl ?_
  have key : ∀ (m i : Nat), i + m = n → ge_B X ge_SH YX7_clearTo 0 (fun v2 g2 => v2 = none ∧ g2 = ge_k (ge_row (ge_up (ge_up g 71 2 b) 71 1 s) 72 (fun j => if j < n then 0 else g 72 j)) 25 r x hb) 12 [(3, .int (nI i)), (0, .ref (ge_ad X.1 71)), (1, .int b), (2, .int s)] [] (ge_k (ge_row (ge_up (ge_up g 71 2 b) 71 1 s) 72 (fun j => if j < i then 0 else g 72 j)) 25 r x hb) := by
    intro m
    induction m with
    | zero =>
      intro i hi
      obtain rfl : i = n := hi
      refine gq_iload_n (pc := 12) dX7_clearTo_12 rfl ?_
      refine gq_aload_n (pc := 13) dX7_clearTo_13 rfl ?_
      refine kq_geto (pw := 25) (pc := 14) (by decide) dX7_clearTo_14 fl_X7_13_7 sh_71 rfl (by unfold ge_Z; omega) ?_
      rw [show ge_row (ge_up (ge_up g 71 2 b) 71 1 s) 72 (fun j => if j < i then 0 else g 72 j) 71 1 = s from by rw [ge_row_ne _ _ (by decide), ge_up_self]]
      refine gq_ic_ge (pc := 17) 33 dX7_clearTo_17 (by decide) (fun h_17 => ?_) (fun h_17 => ?_)
      · exact gq_vret (pc := 33) rfl dX7_clearTo_33 ⟨rfl, rfl⟩
      · exact absurd (by rw [hs]; exact Int32.le_refl _) h_17
    | succ m ih =>
      intro i hi
      refine gq_iload_n (pc := 12) dX7_clearTo_12 rfl ?_
      refine gq_aload_n (pc := 13) dX7_clearTo_13 rfl ?_
      refine kq_geto (pw := 25) (pc := 14) (by decide) dX7_clearTo_14 fl_X7_13_7 sh_71 rfl (by unfold ge_Z; omega) ?_
      rw [show ge_row (ge_up (ge_up g 71 2 b) 71 1 s) 72 (fun j => if j < i then 0 else g 72 j) 71 1 = s from by rw [ge_row_ne _ _ (by decide), ge_up_self]]
      refine gq_ic_ge (pc := 17) 33 dX7_clearTo_17 (by decide) (fun h_17 => ?_) (fun h_17 => ?_)
      · exact absurd ((nI_leI (by omega) (by omega)).mp (hs ▸ h_17)) (by omega)
      · refine gq_aload_n (pc := 20) dX7_clearTo_20 rfl ?_
        refine gq_getr (pc := 21) dX7_clearTo_21 fl_X7_7_7 sh_71 rfl ?_
        refine gq_iload_n (pc := 24) dX7_clearTo_24 rfl ?_
        refine gq_iconst (pc := 25) dX7_clearTo_25 kc_0 ?_
        refine kq_asto (pw := 25) (pc := 26) (by decide) dX7_clearTo_26 sh_72 (by first | assumption | rfl) (by first | decide | omega) (by decide) ?_
        refine gq_iinc (pc := 27) (l' := [(3, _), (0, _), (1, _), (2, _)]) dX7_clearTo_27 rfl (ge_inc1 i) (by decide) rfl ?_
        refine gq_goto (pc := 30) 12 dX7_clearTo_30 (by decide) ?_
        refine gq_tog ?_ (ih (i + 1) (by omega))
        rw [ge_up17]
        congr 2
        funext j
        by_cases hj : j = i
        · subst hj; simp [upd]
        · by_cases h2 : j < i
          · simp [upd, hj, h2, Nat.lt_succ_of_lt h2]
          · have h3 : ¬ j < i + 1 := by omega
            simp [upd, hj, h2, h3]
  refine gq_aload_n (pc := 0) dX7_clearTo_0 rfl ?_
  refine gq_iload_n (pc := 1) dX7_clearTo_1 rfl ?_
  refine kq_puto (pw := 25) (pc := 2) (by decide) dX7_clearTo_2 fp_X7_29_7 sh_71 rfl ?_
  refine gq_aload_n (pc := 5) dX7_clearTo_5 rfl ?_
  refine gq_iload_n (pc := 6) dX7_clearTo_6 rfl ?_
  refine kq_puto (pw := 25) (pc := 7) (by decide) dX7_clearTo_7 fp_X7_13_7 sh_71 rfl ?_
  refine gq_iconst (pc := 10) dX7_clearTo_10 kc_0 ?_
  refine gq_istore_n (pc := 11) (l' := [(3, _), (0, _), (1, _), (2, _)]) dX7_clearTo_11 (by decide) rfl ?_
  refine gq_tog ?_ (key n 0 (by omega))
  congr 1
  funext q
  by_cases hq : q = 72
  · subst hq; rw [ge_row_self]; funext j; simp [ge_up, ge_row]
  · rw [ge_row_ne _ _ hq]
set_option maxHeartbeats 400000 in
theorem r_low_73 (v : Int32) : ge_N X ge_SH YX7_lowestBits 0 [.ref (ge_ad X.1 73), .int v] (ge_k g 25 r x hb) (some (.int (p_low (g 73 2) v))) (ge_k g 25 r x hb) := by
  refine gq_ofB (l := [(0, .ref (ge_ad X.1 73)), (1, .int v)]) (by decide) (Nat.le_of_ble_eq_true rfl) rfl ?_
  refine gq_aload_n (pc := 0) dX7_lowestBits_0 rfl ?_
  refine kq_geto (pw := 25) (pc := 1) (by decide) dX7_lowestBits_1 fl_X7_29_7 sh_73 rfl (by unfold ge_Z; omega) ?_
  refine gq_bipush (pc := 4) dX7_lowestBits_4 kb_8 ?_
  refine gq_ic_ne (pc := 6) 17 dX7_lowestBits_6 (by decide) (fun h_6 => ?_) (fun h_6 => ?_)
  · refine gq_aload_n (pc := 17) dX7_lowestBits_17 rfl ?_
    refine kq_geto (pw := 25) (pc := 18) (by decide) dX7_lowestBits_18 fl_X7_29_7 sh_73 rfl (by unfold ge_Z; omega) ?_
    refine gq_bipush (pc := 21) dX7_lowestBits_21 kb_16 ?_
    refine gq_ic_ne (pc := 23) 33 dX7_lowestBits_23 (by decide) (fun h_23 => ?_) (fun h_23 => ?_)
    · refine gq_iload_n (pc := 33) dX7_lowestBits_33 rfl ?_
      exact gq_iret (pc := 34) rfl dX7_lowestBits_34 ⟨by unfold p_low; first | rw [if_pos h_6] | (rw [if_neg h_6]; first | rw [if_pos h_23] | rw [if_neg h_23]), rfl⟩
    · refine gq_iload_n (pc := 26) dX7_lowestBits_26 rfl ?_
      refine gq_ldc (pc := 27) dX7_lowestBits_27 kn_X7_32 ?_
      refine gq_iand (pc := 29) dX7_lowestBits_29 ?_
      refine gq_goto (pc := 30) 34 dX7_lowestBits_30 (by decide) ?_
      exact gq_iret (pc := 34) rfl dX7_lowestBits_34 ⟨by unfold p_low; first | rw [if_pos h_6] | (rw [if_neg h_6]; first | rw [if_pos h_23] | rw [if_neg h_23]), rfl⟩
  · refine gq_iload_n (pc := 9) dX7_lowestBits_9 rfl ?_
    refine gq_sipush (pc := 10) dX7_lowestBits_10 kq_255 ?_
    refine gq_iand (pc := 13) dX7_lowestBits_13 ?_
    refine gq_goto (pc := 14) 34 dX7_lowestBits_14 (by decide) ?_
    exact gq_iret (pc := 34) rfl dX7_lowestBits_34 ⟨by unfold p_low; first | rw [if_pos h_6] | (rw [if_neg h_6]; first | rw [if_pos h_23] | rw [if_neg h_23]), rfl⟩
set_option maxHeartbeats 1000000 in
theorem r_clear_73 {b s : Int32} {n : Nat} (hs : s = nI n) (hn : n ≤ 40) : ge_N X ge_SH YX7_clearTo 0 [.ref (ge_ad X.1 73), .int b, .int s] (ge_k g 25 r x hb) none (ge_k (ge_row (ge_up (ge_up g 73 2 b) 73 1 s) 74 (fun j => if j < n then 0 else g 74 j)) 25 r x hb) := by
  refine gq_ofB (l := [(0, .ref (ge_ad X.1 73)), (1, .int b), (2, .int s)]) (by decide) (Nat.le_of_ble_eq_true rfl) rfl ?_
  have key : ∀ (m i : Nat), i + m = n → ge_B X ge_SH YX7_clearTo 0 (fun v2 g2 => v2 = none ∧ g2 = ge_k (ge_row (ge_up (ge_up g 73 2 b) 73 1 s) 74 (fun j => if j < n then 0 else g 74 j)) 25 r x hb) 12 [(3, .int (nI i)), (0, .ref (ge_ad X.1 73)), (1, .int b), (2, .int s)] [] (ge_k (ge_row (ge_up (ge_up g 73 2 b) 73 1 s) 74 (fun j => if j < i then 0 else g 74 j)) 25 r x hb) := by
    intro m
    induction m with
    | zero =>
      intro i hi
      obtain rfl : i = n := hi
      refine gq_iload_n (pc := 12) dX7_clearTo_12 rfl ?_
      refine gq_aload_n (pc := 13) dX7_clearTo_13 rfl ?_
      refine kq_geto (pw := 25) (pc := 14) (by decide) dX7_clearTo_14 fl_X7_13_7 sh_73 rfl (by unfold ge_Z; omega) ?_
      rw [show ge_row (ge_up (ge_up g 73 2 b) 73 1 s) 74 (fun j => if j < i then 0 else g 74 j) 73 1 = s from by rw [ge_row_ne _ _ (by decide), ge_up_self]]
      refine gq_ic_ge (pc := 17) 33 dX7_clearTo_17 (by decide) (fun h_17 => ?_) (fun h_17 => ?_)
      · exact gq_vret (pc := 33) rfl dX7_clearTo_33 ⟨rfl, rfl⟩
      · exact absurd (by rw [hs]; exact Int32.le_refl _) h_17
    | succ m ih =>
      intro i hi
      refine gq_iload_n (pc := 12) dX7_clearTo_12 rfl ?_
      refine gq_aload_n (pc := 13) dX7_clearTo_13 rfl ?_
      refine kq_geto (pw := 25) (pc := 14) (by decide) dX7_clearTo_14 fl_X7_13_7 sh_73 rfl (by unfold ge_Z; omega) ?_
      rw [show ge_row (ge_up (ge_up g 73 2 b) 73 1 s) 74 (fun j => if j < i then 0 else g 74 j) 73 1 = s from by rw [ge_row_ne _ _ (by decide), ge_up_self]]
      refine gq_ic_ge (pc := 17) 33 dX7_clearTo_17 (by decide) (fun h_17 => ?_) (fun h_17 => ?_)
      · exact absurd ((nI_leI (by omega) (by omega)).mp (hs ▸ h_17)) (by omega)
      · refine gq_aload_n (pc := 20) dX7_clearTo_20 rfl ?_
        refine gq_getr (pc := 21) dX7_clearTo_21 fl_X7_7_7 sh_73 rfl ?_
        refine gq_iload_n (pc := 24) dX7_clearTo_24 rfl ?_
        refine gq_iconst (pc := 25) dX7_clearTo_25 kc_0 ?_
        refine kq_asto (pw := 25) (pc := 26) (by decide) dX7_clearTo_26 sh_74 (by first | assumption | rfl) (by first | decide | omega) (by decide) ?_
        refine gq_iinc (pc := 27) (l' := [(3, _), (0, _), (1, _), (2, _)]) dX7_clearTo_27 rfl (ge_inc1 i) (by decide) rfl ?_
        refine gq_goto (pc := 30) 12 dX7_clearTo_30 (by decide) ?_
        refine gq_tog ?_ (ih (i + 1) (by omega))
        rw [ge_up17]
        congr 2
        funext j
        by_cases hj : j = i
        · subst hj; simp [upd]
        · by_cases h2 : j < i
          · simp [upd, hj, h2, Nat.lt_succ_of_lt h2]
          · have h3 : ¬ j < i + 1 := by omega
            simp [upd, hj, h2, h3]
  refine gq_aload_n (pc := 0) dX7_clearTo_0 rfl ?_
  refine gq_iload_n (pc := 1) dX7_clearTo_1 rfl ?_
  refine kq_puto (pw := 25) (pc := 2) (by decide) dX7_clearTo_2 fp_X7_29_7 sh_73 rfl ?_
  refine gq_aload_n (pc := 5) dX7_clearTo_5 rfl ?_
  refine gq_iload_n (pc := 6) dX7_clearTo_6 rfl ?_
  refine kq_puto (pw := 25) (pc := 7) (by decide) dX7_clearTo_7 fp_X7_13_7 sh_73 rfl ?_
  refine gq_iconst (pc := 10) dX7_clearTo_10 kc_0 ?_
  refine gq_istore_n (pc := 11) (l' := [(3, _), (0, _), (1, _), (2, _)]) dX7_clearTo_11 (by decide) rfl ?_
  refine gq_tog ?_ (key n 0 (by omega))
  congr 1
  funext q
  by_cases hq : q = 74
  · subst hq; rw [ge_row_self]; funext j; simp [ge_up, ge_row]
  · rw [ge_row_ne _ _ hq]
set_option maxHeartbeats 400000 in
theorem r_copy_60_58 {n : Nat} (hn : g 58 1 = nI n) (h : n ≤ 50) : ge_N X ge_SH YX7_copyFrom 1 [.ref (ge_ad X.1 60), .ref (ge_ad X.1 58)] (ge_k g 25 r x hb) none (ge_k (ge_row (ge_up g 60 1 (nI n)) 61 (va_cpy (g 59) (g 61) 0 0 n)) 25 r x hb) := by
  refine gq_ofB (l := [(0, .ref (ge_ad X.1 60)), (1, .ref (ge_ad X.1 58))]) (by decide) (Nat.le_of_ble_eq_true rfl) rfl ?_
  refine gq_aload_n (pc := 0) dX7_copyFrom_0 rfl ?_
  refine gq_aload_n (pc := 1) dX7_copyFrom_1 rfl ?_
  refine kq_geto (pw := 25) (pc := 2) (by decide) dX7_copyFrom_2 fl_X7_13_7 sh_58 rfl (by unfold ge_Z; omega) ?_
  refine gq_aload_n (pc := 5) dX7_copyFrom_5 rfl ?_
  refine gq_getr (pc := 6) dX7_copyFrom_6 fl_X7_7_7 sh_60 rfl ?_
  refine gq_alen (pc := 9) (v := 50) dX7_copyFrom_9 sh_61 rfl ?_
  rw [hn]
  refine gq_rS2i (pc := 10) dX7_copyFrom_10 cs_X7_17 (k_min _ _) ⟨by decide, by decide⟩ (Nat.le_of_ble_eq_true rfl) ?_
  rw [show p_min (nI n) 50 = nI n from p_min_nI (b := 50) h (by decide)]
  refine kq_puto (pw := 25) (pc := 13) (by decide) dX7_copyFrom_13 fp_X7_13_7 sh_60 rfl ?_
  refine gq_aload_n (pc := 16) dX7_copyFrom_16 rfl ?_
  refine gq_getr (pc := 17) dX7_copyFrom_17 fl_X7_7_7 sh_58 rfl ?_
  refine gq_iconst (pc := 20) dX7_copyFrom_20 kc_0 ?_
  refine gq_aload_n (pc := 21) dX7_copyFrom_21 rfl ?_
  refine gq_getr (pc := 22) dX7_copyFrom_22 fl_X7_7_7 sh_60 rfl ?_
  refine gq_iconst (pc := 25) dX7_copyFrom_25 kc_0 ?_
  refine gq_aload_n (pc := 26) dX7_copyFrom_26 rfl ?_
  refine kq_geto (pw := 25) (pc := 27) (by decide) dX7_copyFrom_27 fl_X7_13_7 sh_60 rfl (by unfold ge_Z; omega) ?_
  rw [show ge_up g 60 1 (nI n) 60 1 = nI n from ge_up_self _ _ _ _]
  refine kq_copy (pw := 25) (pc := 30) (by decide) (by decide) dX7_copyFrom_30 cc_X7_23 sh_59 sh_61 kl_0 kl_0 rfl (by omega) (by omega) (by decide) (by decide) (by decide) (Nat.le_of_ble_eq_true rfl) ?_
  exact gq_vret (pc := 33) rfl dX7_copyFrom_33 ⟨rfl, rfl⟩
set_option maxHeartbeats 400000 in
theorem r_copy_58_60 {n : Nat} (hn : g 60 1 = nI n) (h : n ≤ 50) : ge_N X ge_SH YX7_copyFrom 1 [.ref (ge_ad X.1 58), .ref (ge_ad X.1 60)] (ge_k g 25 r x hb) none (ge_k (ge_row (ge_up g 58 1 (nI n)) 59 (va_cpy (g 61) (g 59) 0 0 n)) 25 r x hb) := by
  refine gq_ofB (l := [(0, .ref (ge_ad X.1 58)), (1, .ref (ge_ad X.1 60))]) (by decide) (Nat.le_of_ble_eq_true rfl) rfl ?_
  refine gq_aload_n (pc := 0) dX7_copyFrom_0 rfl ?_
  refine gq_aload_n (pc := 1) dX7_copyFrom_1 rfl ?_
  refine kq_geto (pw := 25) (pc := 2) (by decide) dX7_copyFrom_2 fl_X7_13_7 sh_60 rfl (by unfold ge_Z; omega) ?_
  refine gq_aload_n (pc := 5) dX7_copyFrom_5 rfl ?_
  refine gq_getr (pc := 6) dX7_copyFrom_6 fl_X7_7_7 sh_58 rfl ?_
  refine gq_alen (pc := 9) (v := 50) dX7_copyFrom_9 sh_59 rfl ?_
  rw [hn]
  refine gq_rS2i (pc := 10) dX7_copyFrom_10 cs_X7_17 (k_min _ _) ⟨by decide, by decide⟩ (Nat.le_of_ble_eq_true rfl) ?_
  rw [show p_min (nI n) 50 = nI n from p_min_nI (b := 50) h (by decide)]
  refine kq_puto (pw := 25) (pc := 13) (by decide) dX7_copyFrom_13 fp_X7_13_7 sh_58 rfl ?_
  refine gq_aload_n (pc := 16) dX7_copyFrom_16 rfl ?_
  refine gq_getr (pc := 17) dX7_copyFrom_17 fl_X7_7_7 sh_60 rfl ?_
  refine gq_iconst (pc := 20) dX7_copyFrom_20 kc_0 ?_
  refine gq_aload_n (pc := 21) dX7_copyFrom_21 rfl ?_
  refine gq_getr (pc := 22) dX7_copyFrom_22 fl_X7_7_7 sh_58 rfl ?_
  refine gq_iconst (pc := 25) dX7_copyFrom_25 kc_0 ?_
  refine gq_aload_n (pc := 26) dX7_copyFrom_26 rfl ?_
  refine kq_geto (pw := 25) (pc := 27) (by decide) dX7_copyFrom_27 fl_X7_13_7 sh_58 rfl (by unfold ge_Z; omega) ?_
  rw [show ge_up g 58 1 (nI n) 58 1 = nI n from ge_up_self _ _ _ _]
  refine kq_copy (pw := 25) (pc := 30) (by decide) (by decide) dX7_copyFrom_30 cc_X7_23 sh_61 sh_59 kl_0 kl_0 rfl (by omega) (by omega) (by decide) (by decide) (by decide) (Nat.le_of_ble_eq_true rfl) ?_
  exact gq_vret (pc := 33) rfl dX7_copyFrom_33 ⟨rfl, rfl⟩
set_option maxHeartbeats 400000 in
theorem r_copy_64_62 {n : Nat} (hn : g 62 1 = nI n) (h : n ≤ 20) : ge_N X ge_SH YX7_copyFrom 1 [.ref (ge_ad X.1 64), .ref (ge_ad X.1 62)] (ge_k g 25 r x hb) none (ge_k (ge_row (ge_up g 64 1 (nI n)) 65 (va_cpy (g 63) (g 65) 0 0 n)) 25 r x hb) := by
  refine gq_ofB (l := [(0, .ref (ge_ad X.1 64)), (1, .ref (ge_ad X.1 62))]) (by decide) (Nat.le_of_ble_eq_true rfl) rfl ?_
  refine gq_aload_n (pc := 0) dX7_copyFrom_0 rfl ?_
  refine gq_aload_n (pc := 1) dX7_copyFrom_1 rfl ?_
  refine kq_geto (pw := 25) (pc := 2) (by decide) dX7_copyFrom_2 fl_X7_13_7 sh_62 rfl (by unfold ge_Z; omega) ?_
  refine gq_aload_n (pc := 5) dX7_copyFrom_5 rfl ?_
  refine gq_getr (pc := 6) dX7_copyFrom_6 fl_X7_7_7 sh_64 rfl ?_
  refine gq_alen (pc := 9) (v := 20) dX7_copyFrom_9 sh_65 rfl ?_
  rw [hn]
  refine gq_rS2i (pc := 10) dX7_copyFrom_10 cs_X7_17 (k_min _ _) ⟨by decide, by decide⟩ (Nat.le_of_ble_eq_true rfl) ?_
  rw [show p_min (nI n) 20 = nI n from p_min_nI (b := 20) h (by decide)]
  refine kq_puto (pw := 25) (pc := 13) (by decide) dX7_copyFrom_13 fp_X7_13_7 sh_64 rfl ?_
  refine gq_aload_n (pc := 16) dX7_copyFrom_16 rfl ?_
  refine gq_getr (pc := 17) dX7_copyFrom_17 fl_X7_7_7 sh_62 rfl ?_
  refine gq_iconst (pc := 20) dX7_copyFrom_20 kc_0 ?_
  refine gq_aload_n (pc := 21) dX7_copyFrom_21 rfl ?_
  refine gq_getr (pc := 22) dX7_copyFrom_22 fl_X7_7_7 sh_64 rfl ?_
  refine gq_iconst (pc := 25) dX7_copyFrom_25 kc_0 ?_
  refine gq_aload_n (pc := 26) dX7_copyFrom_26 rfl ?_
  refine kq_geto (pw := 25) (pc := 27) (by decide) dX7_copyFrom_27 fl_X7_13_7 sh_64 rfl (by unfold ge_Z; omega) ?_
  rw [show ge_up g 64 1 (nI n) 64 1 = nI n from ge_up_self _ _ _ _]
  refine kq_copy (pw := 25) (pc := 30) (by decide) (by decide) dX7_copyFrom_30 cc_X7_23 sh_63 sh_65 kl_0 kl_0 rfl (by omega) (by omega) (by decide) (by decide) (by decide) (Nat.le_of_ble_eq_true rfl) ?_
  exact gq_vret (pc := 33) rfl dX7_copyFrom_33 ⟨rfl, rfl⟩
set_option maxHeartbeats 400000 in
theorem r_copy_62_64 {n : Nat} (hn : g 64 1 = nI n) (h : n ≤ 20) : ge_N X ge_SH YX7_copyFrom 1 [.ref (ge_ad X.1 62), .ref (ge_ad X.1 64)] (ge_k g 25 r x hb) none (ge_k (ge_row (ge_up g 62 1 (nI n)) 63 (va_cpy (g 65) (g 63) 0 0 n)) 25 r x hb) := by
  refine gq_ofB (l := [(0, .ref (ge_ad X.1 62)), (1, .ref (ge_ad X.1 64))]) (by decide) (Nat.le_of_ble_eq_true rfl) rfl ?_
  refine gq_aload_n (pc := 0) dX7_copyFrom_0 rfl ?_
  refine gq_aload_n (pc := 1) dX7_copyFrom_1 rfl ?_
  refine kq_geto (pw := 25) (pc := 2) (by decide) dX7_copyFrom_2 fl_X7_13_7 sh_64 rfl (by unfold ge_Z; omega) ?_
  refine gq_aload_n (pc := 5) dX7_copyFrom_5 rfl ?_
  refine gq_getr (pc := 6) dX7_copyFrom_6 fl_X7_7_7 sh_62 rfl ?_
  refine gq_alen (pc := 9) (v := 20) dX7_copyFrom_9 sh_63 rfl ?_
  rw [hn]
  refine gq_rS2i (pc := 10) dX7_copyFrom_10 cs_X7_17 (k_min _ _) ⟨by decide, by decide⟩ (Nat.le_of_ble_eq_true rfl) ?_
  rw [show p_min (nI n) 20 = nI n from p_min_nI (b := 20) h (by decide)]
  refine kq_puto (pw := 25) (pc := 13) (by decide) dX7_copyFrom_13 fp_X7_13_7 sh_62 rfl ?_
  refine gq_aload_n (pc := 16) dX7_copyFrom_16 rfl ?_
  refine gq_getr (pc := 17) dX7_copyFrom_17 fl_X7_7_7 sh_64 rfl ?_
  refine gq_iconst (pc := 20) dX7_copyFrom_20 kc_0 ?_
  refine gq_aload_n (pc := 21) dX7_copyFrom_21 rfl ?_
  refine gq_getr (pc := 22) dX7_copyFrom_22 fl_X7_7_7 sh_62 rfl ?_
  refine gq_iconst (pc := 25) dX7_copyFrom_25 kc_0 ?_
  refine gq_aload_n (pc := 26) dX7_copyFrom_26 rfl ?_
  refine kq_geto (pw := 25) (pc := 27) (by decide) dX7_copyFrom_27 fl_X7_13_7 sh_62 rfl (by unfold ge_Z; omega) ?_
  rw [show ge_up g 62 1 (nI n) 62 1 = nI n from ge_up_self _ _ _ _]
  refine kq_copy (pw := 25) (pc := 30) (by decide) (by decide) dX7_copyFrom_30 cc_X7_23 sh_65 sh_63 kl_0 kl_0 rfl (by omega) (by omega) (by decide) (by decide) (by decide) (Nat.le_of_ble_eq_true rfl) ?_
  exact gq_vret (pc := 33) rfl dX7_copyFrom_33 ⟨rfl, rfl⟩
set_option maxHeartbeats 400000 in
theorem r_copy_20_13 {n : Nat} (hn : g 13 1 = nI n) (h : n ≤ 50) : ge_N X ge_SH YX7_copyFrom 1 [.ref (ge_ad X.1 20), .ref (ge_ad X.1 13)] (ge_k g 25 r x hb) none (ge_k (ge_row (ge_up g 20 1 (nI n)) 21 (va_cpy (g 14) (g 21) 0 0 n)) 25 r x hb) := by
  refine gq_ofB (l := [(0, .ref (ge_ad X.1 20)), (1, .ref (ge_ad X.1 13))]) (by decide) (Nat.le_of_ble_eq_true rfl) rfl ?_
  refine gq_aload_n (pc := 0) dX7_copyFrom_0 rfl ?_
  refine gq_aload_n (pc := 1) dX7_copyFrom_1 rfl ?_
  refine kq_geto (pw := 25) (pc := 2) (by decide) dX7_copyFrom_2 fl_X7_13_7 sh_13 rfl (by unfold ge_Z; omega) ?_
  refine gq_aload_n (pc := 5) dX7_copyFrom_5 rfl ?_
  refine gq_getr (pc := 6) dX7_copyFrom_6 fl_X7_7_7 sh_20 rfl ?_
  refine gq_alen (pc := 9) (v := 50) dX7_copyFrom_9 sh_21 rfl ?_
  rw [hn]
  refine gq_rS2i (pc := 10) dX7_copyFrom_10 cs_X7_17 (k_min _ _) ⟨by decide, by decide⟩ (Nat.le_of_ble_eq_true rfl) ?_
  rw [show p_min (nI n) 50 = nI n from p_min_nI (b := 50) h (by decide)]
  refine kq_puto (pw := 25) (pc := 13) (by decide) dX7_copyFrom_13 fp_X7_13_7 sh_20 rfl ?_
  refine gq_aload_n (pc := 16) dX7_copyFrom_16 rfl ?_
  refine gq_getr (pc := 17) dX7_copyFrom_17 fl_X7_7_7 sh_13 rfl ?_
  refine gq_iconst (pc := 20) dX7_copyFrom_20 kc_0 ?_
  refine gq_aload_n (pc := 21) dX7_copyFrom_21 rfl ?_
  refine gq_getr (pc := 22) dX7_copyFrom_22 fl_X7_7_7 sh_20 rfl ?_
  refine gq_iconst (pc := 25) dX7_copyFrom_25 kc_0 ?_
  refine gq_aload_n (pc := 26) dX7_copyFrom_26 rfl ?_
  refine kq_geto (pw := 25) (pc := 27) (by decide) dX7_copyFrom_27 fl_X7_13_7 sh_20 rfl (by unfold ge_Z; omega) ?_
  rw [show ge_up g 20 1 (nI n) 20 1 = nI n from ge_up_self _ _ _ _]
  refine kq_copy (pw := 25) (pc := 30) (by decide) (by decide) dX7_copyFrom_30 cc_X7_23 sh_14 sh_21 kl_0 kl_0 rfl (by omega) (by omega) (by decide) (by decide) (by decide) (Nat.le_of_ble_eq_true rfl) ?_
  exact gq_vret (pc := 33) rfl dX7_copyFrom_33 ⟨rfl, rfl⟩
set_option maxHeartbeats 400000 in
theorem r_copy_22_15 {n : Nat} (hn : g 15 1 = nI n) (h : n ≤ 50) : ge_N X ge_SH YX7_copyFrom 1 [.ref (ge_ad X.1 22), .ref (ge_ad X.1 15)] (ge_k g 25 r x hb) none (ge_k (ge_row (ge_up g 22 1 (nI n)) 23 (va_cpy (g 16) (g 23) 0 0 n)) 25 r x hb) := by
  refine gq_ofB (l := [(0, .ref (ge_ad X.1 22)), (1, .ref (ge_ad X.1 15))]) (by decide) (Nat.le_of_ble_eq_true rfl) rfl ?_
  refine gq_aload_n (pc := 0) dX7_copyFrom_0 rfl ?_
  refine gq_aload_n (pc := 1) dX7_copyFrom_1 rfl ?_
  refine kq_geto (pw := 25) (pc := 2) (by decide) dX7_copyFrom_2 fl_X7_13_7 sh_15 rfl (by unfold ge_Z; omega) ?_
  refine gq_aload_n (pc := 5) dX7_copyFrom_5 rfl ?_
  refine gq_getr (pc := 6) dX7_copyFrom_6 fl_X7_7_7 sh_22 rfl ?_
  refine gq_alen (pc := 9) (v := 50) dX7_copyFrom_9 sh_23 rfl ?_
  rw [hn]
  refine gq_rS2i (pc := 10) dX7_copyFrom_10 cs_X7_17 (k_min _ _) ⟨by decide, by decide⟩ (Nat.le_of_ble_eq_true rfl) ?_
  rw [show p_min (nI n) 50 = nI n from p_min_nI (b := 50) h (by decide)]
  refine kq_puto (pw := 25) (pc := 13) (by decide) dX7_copyFrom_13 fp_X7_13_7 sh_22 rfl ?_
  refine gq_aload_n (pc := 16) dX7_copyFrom_16 rfl ?_
  refine gq_getr (pc := 17) dX7_copyFrom_17 fl_X7_7_7 sh_15 rfl ?_
  refine gq_iconst (pc := 20) dX7_copyFrom_20 kc_0 ?_
  refine gq_aload_n (pc := 21) dX7_copyFrom_21 rfl ?_
  refine gq_getr (pc := 22) dX7_copyFrom_22 fl_X7_7_7 sh_22 rfl ?_
  refine gq_iconst (pc := 25) dX7_copyFrom_25 kc_0 ?_
  refine gq_aload_n (pc := 26) dX7_copyFrom_26 rfl ?_
  refine kq_geto (pw := 25) (pc := 27) (by decide) dX7_copyFrom_27 fl_X7_13_7 sh_22 rfl (by unfold ge_Z; omega) ?_
  rw [show ge_up g 22 1 (nI n) 22 1 = nI n from ge_up_self _ _ _ _]
  refine kq_copy (pw := 25) (pc := 30) (by decide) (by decide) dX7_copyFrom_30 cc_X7_23 sh_16 sh_23 kl_0 kl_0 rfl (by omega) (by omega) (by decide) (by decide) (by decide) (Nat.le_of_ble_eq_true rfl) ?_
  exact gq_vret (pc := 33) rfl dX7_copyFrom_33 ⟨rfl, rfl⟩
set_option maxHeartbeats 400000 in
theorem r_copy_13_20 {n : Nat} (hn : g 20 1 = nI n) (h : n ≤ 50) : ge_N X ge_SH YX7_copyFrom 1 [.ref (ge_ad X.1 13), .ref (ge_ad X.1 20)] (ge_k g 25 r x hb) none (ge_k (ge_row (ge_up g 13 1 (nI n)) 14 (va_cpy (g 21) (g 14) 0 0 n)) 25 r x hb) := by
  refine gq_ofB (l := [(0, .ref (ge_ad X.1 13)), (1, .ref (ge_ad X.1 20))]) (by decide) (Nat.le_of_ble_eq_true rfl) rfl ?_
  refine gq_aload_n (pc := 0) dX7_copyFrom_0 rfl ?_
  refine gq_aload_n (pc := 1) dX7_copyFrom_1 rfl ?_
  refine kq_geto (pw := 25) (pc := 2) (by decide) dX7_copyFrom_2 fl_X7_13_7 sh_20 rfl (by unfold ge_Z; omega) ?_
  refine gq_aload_n (pc := 5) dX7_copyFrom_5 rfl ?_
  refine gq_getr (pc := 6) dX7_copyFrom_6 fl_X7_7_7 sh_13 rfl ?_
  refine gq_alen (pc := 9) (v := 50) dX7_copyFrom_9 sh_14 rfl ?_
  rw [hn]
  refine gq_rS2i (pc := 10) dX7_copyFrom_10 cs_X7_17 (k_min _ _) ⟨by decide, by decide⟩ (Nat.le_of_ble_eq_true rfl) ?_
  rw [show p_min (nI n) 50 = nI n from p_min_nI (b := 50) h (by decide)]
  refine kq_puto (pw := 25) (pc := 13) (by decide) dX7_copyFrom_13 fp_X7_13_7 sh_13 rfl ?_
  refine gq_aload_n (pc := 16) dX7_copyFrom_16 rfl ?_
  refine gq_getr (pc := 17) dX7_copyFrom_17 fl_X7_7_7 sh_20 rfl ?_
  refine gq_iconst (pc := 20) dX7_copyFrom_20 kc_0 ?_
  refine gq_aload_n (pc := 21) dX7_copyFrom_21 rfl ?_
  refine gq_getr (pc := 22) dX7_copyFrom_22 fl_X7_7_7 sh_13 rfl ?_
  refine gq_iconst (pc := 25) dX7_copyFrom_25 kc_0 ?_
  refine gq_aload_n (pc := 26) dX7_copyFrom_26 rfl ?_
  refine kq_geto (pw := 25) (pc := 27) (by decide) dX7_copyFrom_27 fl_X7_13_7 sh_13 rfl (by unfold ge_Z; omega) ?_
  rw [show ge_up g 13 1 (nI n) 13 1 = nI n from ge_up_self _ _ _ _]
  refine kq_copy (pw := 25) (pc := 30) (by decide) (by decide) dX7_copyFrom_30 cc_X7_23 sh_21 sh_14 kl_0 kl_0 rfl (by omega) (by omega) (by decide) (by decide) (by decide) (Nat.le_of_ble_eq_true rfl) ?_
  exact gq_vret (pc := 33) rfl dX7_copyFrom_33 ⟨rfl, rfl⟩
set_option maxHeartbeats 400000 in
theorem r_copy_15_22 {n : Nat} (hn : g 22 1 = nI n) (h : n ≤ 50) : ge_N X ge_SH YX7_copyFrom 1 [.ref (ge_ad X.1 15), .ref (ge_ad X.1 22)] (ge_k g 25 r x hb) none (ge_k (ge_row (ge_up g 15 1 (nI n)) 16 (va_cpy (g 23) (g 16) 0 0 n)) 25 r x hb) := by
  refine gq_ofB (l := [(0, .ref (ge_ad X.1 15)), (1, .ref (ge_ad X.1 22))]) (by decide) (Nat.le_of_ble_eq_true rfl) rfl ?_
  refine gq_aload_n (pc := 0) dX7_copyFrom_0 rfl ?_
  refine gq_aload_n (pc := 1) dX7_copyFrom_1 rfl ?_
  refine kq_geto (pw := 25) (pc := 2) (by decide) dX7_copyFrom_2 fl_X7_13_7 sh_22 rfl (by unfold ge_Z; omega) ?_
  refine gq_aload_n (pc := 5) dX7_copyFrom_5 rfl ?_
  refine gq_getr (pc := 6) dX7_copyFrom_6 fl_X7_7_7 sh_15 rfl ?_
  refine gq_alen (pc := 9) (v := 50) dX7_copyFrom_9 sh_16 rfl ?_
  rw [hn]
  refine gq_rS2i (pc := 10) dX7_copyFrom_10 cs_X7_17 (k_min _ _) ⟨by decide, by decide⟩ (Nat.le_of_ble_eq_true rfl) ?_
  rw [show p_min (nI n) 50 = nI n from p_min_nI (b := 50) h (by decide)]
  refine kq_puto (pw := 25) (pc := 13) (by decide) dX7_copyFrom_13 fp_X7_13_7 sh_15 rfl ?_
  refine gq_aload_n (pc := 16) dX7_copyFrom_16 rfl ?_
  refine gq_getr (pc := 17) dX7_copyFrom_17 fl_X7_7_7 sh_22 rfl ?_
  refine gq_iconst (pc := 20) dX7_copyFrom_20 kc_0 ?_
  refine gq_aload_n (pc := 21) dX7_copyFrom_21 rfl ?_
  refine gq_getr (pc := 22) dX7_copyFrom_22 fl_X7_7_7 sh_15 rfl ?_
  refine gq_iconst (pc := 25) dX7_copyFrom_25 kc_0 ?_
  refine gq_aload_n (pc := 26) dX7_copyFrom_26 rfl ?_
  refine kq_geto (pw := 25) (pc := 27) (by decide) dX7_copyFrom_27 fl_X7_13_7 sh_15 rfl (by unfold ge_Z; omega) ?_
  rw [show ge_up g 15 1 (nI n) 15 1 = nI n from ge_up_self _ _ _ _]
  refine kq_copy (pw := 25) (pc := 30) (by decide) (by decide) dX7_copyFrom_30 cc_X7_23 sh_23 sh_16 kl_0 kl_0 rfl (by omega) (by omega) (by decide) (by decide) (by decide) (Nat.le_of_ble_eq_true rfl) ?_
  exact gq_vret (pc := 33) rfl dX7_copyFrom_33 ⟨rfl, rfl⟩
end R9
