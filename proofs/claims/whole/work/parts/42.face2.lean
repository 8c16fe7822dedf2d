section F3
variable {X : ge_X} {g : ge_G} {r x hb : Nat → Int32} {c : Nat}
set_option maxHeartbeats 400000 in
theorem c_eye_ok {k v : Int32} {a b E : Nat} (ha : k = nI a) (ha2 : a ≤ 69) (hb1 : v = nI b) (hb2 : b ≤ 9) (hE : E < 8) (e2 : r 2 = nI E) : ge_N X ge_SH YX11_eye 2 [.ref (ge_ad X.1 0), .int k, .int v] (ge_k g 25 r x hb) (some (.int (nI E))) (ge_k g 25 (upd (p_addE r E (k / 10) (p_rem k 10) v) 2 (nI (E + 1))) x hb) := by
  refine gq_ofB (l := [(0, .ref (ge_ad X.1 0)), (1, .int k), (2, .int v)]) (by decide) (Nat.le_of_ble_eq_true rfl) rfl ?_
  refine gq_iload_n (pc := 0) dX11_eye_0 rfl ?_
  refine gq_rS1i (pc := 1) dX11_eye_1 cs_X11_116 (c_noKindAndNumber _) ⟨by decide, by decide⟩ (Nat.le_of_ble_eq_true rfl) ?_
  refine gq_if_ne (pc := 4) 17 dX11_eye_4 (by decide) (fun h_4 => ?_) (fun h_4 => ?_)
  · exact absurd (p_nt_0.mpr (p_in_le (N := 69) ha ha2 (by decide))) h_4
  · refine gq_iload_n (pc := 7) dX11_eye_7 rfl ?_
    refine gq_iconst (pc := 8) dX11_eye_8 kc_0 ?_
    refine gq_bipush (pc := 9) dX11_eye_9 kb_9 ?_
    refine gq_rS3i (pc := 11) dX11_eye_11 cs_X11_105 (c_outside _ _ _) ⟨by decide, by decide⟩ (Nat.le_of_ble_eq_true rfl) ?_
    refine gq_if_eq (pc := 14) 23 dX11_eye_14 (by decide) (fun h_14 => ?_) (fun h_14 => ?_)
    · refine gq_aload_n (pc := 23) dX11_eye_23 rfl ?_
      refine gq_getr (pc := 24) dX11_eye_24 fl_X11_60_11 sh_0 rfl ?_
      refine kq_get11 (pw := 25) (pc := 27) (by decide) dX11_eye_27 fl_X11_119_10 ?_
      refine gq_bipush (pc := 30) dX11_eye_30 kb_8 ?_
      refine gq_ic_lt (pc := 32) 41 dX11_eye_32 (by decide) (fun h_32 => ?_) (fun h_32 => ?_)
      · refine gq_aload_n (pc := 41) dX11_eye_41 rfl ?_
        refine gq_getr (pc := 42) dX11_eye_42 fl_X11_60_11 sh_0 rfl ?_
        refine gq_iload_n (pc := 45) dX11_eye_45 rfl ?_
        refine gq_bipush (pc := 46) dX11_eye_46 kb_10 ?_
        refine gq_idiv (pc := 48) dX11_eye_48 (by decide) ?_
        refine gq_iload_n (pc := 49) dX11_eye_49 rfl ?_
        refine gq_bipush (pc := 50) dX11_eye_50 kb_10 ?_
        refine gq_irem (pc := 52) dX11_eye_52 (by decide) (rfl : _ = p_rem _ _) ?_
        refine gq_iload_n (pc := 53) dX11_eye_53 rfl ?_
        refine gq_rV3i (pc := 54) dX11_eye_54 cv_X11_122 sh_25 (k_addEye hE e2) ⟨by decide, by decide⟩ rfl rfl (Nat.le_of_ble_eq_true rfl) ?_
        exact gq_iret (pc := 57) rfl dX11_eye_57 ⟨rfl, rfl⟩
      · exact absurd (show r 2 < 8 by rw [e2]; exact (nI_ltI (b := 8) (by omega) (by omega)).mpr hE) h_32
    · exact absurd (p_nt_0.mpr (p_in_le (N := 9) hb1 hb2 (by decide))) h_14
set_option maxHeartbeats 400000 in
theorem c_eye_er {k v : Int32} (h : p_in k 0 69 = 0 ∨ p_in v 0 9 = 0) : ge_N X ge_SH YX11_eye 2 [.ref (ge_ad X.1 0), .int k, .int v] (ge_k g 25 r x hb) (some (.int (-1000000000 - 1))) (ge_k (ge_up g 75 1 (g 75 1 + 1)) 25 r x hb) := by
  refine gq_ofB (l := [(0, .ref (ge_ad X.1 0)), (1, .int k), (2, .int v)]) (by decide) (Nat.le_of_ble_eq_true rfl) rfl ?_
  refine gq_iload_n (pc := 0) dX11_eye_0 rfl ?_
  refine gq_rS1i (pc := 1) dX11_eye_1 cs_X11_116 (c_noKindAndNumber _) ⟨by decide, by decide⟩ (Nat.le_of_ble_eq_true rfl) ?_
  refine gq_if_ne (pc := 4) 17 dX11_eye_4 (by decide) (fun h_4 => ?_) (fun h_4 => ?_)
  · refine gq_aload_n (pc := 17) dX11_eye_17 rfl ?_
    refine gq_iconst (pc := 18) dX11_eye_18 kc_1 ?_
    refine gq_rV1i (pc := 19) dX11_eye_19 cv_X11_109 sh_0 (c_error kl_1 (by decide)) ⟨by decide, by decide⟩ rfl rfl (Nat.le_of_ble_eq_true rfl) ?_
    exact gq_iret (pc := 22) rfl dX11_eye_22 ⟨rfl, rfl⟩
  · refine gq_iload_n (pc := 7) dX11_eye_7 rfl ?_
    refine gq_iconst (pc := 8) dX11_eye_8 kc_0 ?_
    refine gq_bipush (pc := 9) dX11_eye_9 kb_9 ?_
    refine gq_rS3i (pc := 11) dX11_eye_11 cs_X11_105 (c_outside _ _ _) ⟨by decide, by decide⟩ (Nat.le_of_ble_eq_true rfl) ?_
    refine gq_if_eq (pc := 14) 23 dX11_eye_14 (by decide) (fun h_14 => ?_) (fun h_14 => ?_)
    · exact (h.elim (p_nt_0.mp h_4) (p_nt_0.mp h_14)).elim
    · refine gq_aload_n (pc := 17) dX11_eye_17 rfl ?_
      refine gq_iconst (pc := 18) dX11_eye_18 kc_1 ?_
      refine gq_rV1i (pc := 19) dX11_eye_19 cv_X11_109 sh_0 (c_error kl_1 (by decide)) ⟨by decide, by decide⟩ rfl rfl (Nat.le_of_ble_eq_true rfl) ?_
      exact gq_iret (pc := 22) rfl dX11_eye_22 ⟨rfl, rfl⟩
set_option maxHeartbeats 400000 in
theorem c_eye_fu {k v : Int32} (h1 : ¬ p_in k 0 69 = 0) (h2 : ¬ p_in v 0 9 = 0) (e2 : r 2 = 8) : ge_N X ge_SH YX11_eye 2 [.ref (ge_ad X.1 0), .int k, .int v] (ge_k g 25 r x hb) (some (.int (-1000000000 - 4))) (ge_k (ge_up g 75 4 (g 75 4 + 1)) 25 r x hb) := by
  refine gq_ofB (l := [(0, .ref (ge_ad X.1 0)), (1, .int k), (2, .int v)]) (by decide) (Nat.le_of_ble_eq_true rfl) rfl ?_
  refine gq_iload_n (pc := 0) dX11_eye_0 rfl ?_
  refine gq_rS1i (pc := 1) dX11_eye_1 cs_X11_116 (c_noKindAndNumber _) ⟨by decide, by decide⟩ (Nat.le_of_ble_eq_true rfl) ?_
  refine gq_if_ne (pc := 4) 17 dX11_eye_4 (by decide) (fun h_4 => ?_) (fun h_4 => ?_)
  · exact absurd (p_nt_0.mpr h1) h_4
  · refine gq_iload_n (pc := 7) dX11_eye_7 rfl ?_
    refine gq_iconst (pc := 8) dX11_eye_8 kc_0 ?_
    refine gq_bipush (pc := 9) dX11_eye_9 kb_9 ?_
    refine gq_rS3i (pc := 11) dX11_eye_11 cs_X11_105 (c_outside _ _ _) ⟨by decide, by decide⟩ (Nat.le_of_ble_eq_true rfl) ?_
    refine gq_if_eq (pc := 14) 23 dX11_eye_14 (by decide) (fun h_14 => ?_) (fun h_14 => ?_)
    · refine gq_aload_n (pc := 23) dX11_eye_23 rfl ?_
      refine gq_getr (pc := 24) dX11_eye_24 fl_X11_60_11 sh_0 rfl ?_
      refine kq_get11 (pw := 25) (pc := 27) (by decide) dX11_eye_27 fl_X11_119_10 ?_
      refine gq_bipush (pc := 30) dX11_eye_30 kb_8 ?_
      refine gq_ic_lt (pc := 32) 41 dX11_eye_32 (by decide) (fun h_32 => ?_) (fun h_32 => ?_)
      · exact absurd h_32 (by rw [e2]; decide)
      · refine gq_aload_n (pc := 35) dX11_eye_35 rfl ?_
        refine gq_iconst (pc := 36) dX11_eye_36 kc_4 ?_
        refine gq_rV1i (pc := 37) dX11_eye_37 cv_X11_109 sh_0 (c_error kl_4 (by decide)) ⟨by decide, by decide⟩ rfl rfl (Nat.le_of_ble_eq_true rfl) ?_
        exact gq_iret (pc := 40) rfl dX11_eye_40 ⟨rfl, rfl⟩
    · exact absurd (p_nt_0.mpr h2) h_14
set_option maxHeartbeats 400000 in
theorem c_wearer_ok {V : Nat} (hV : V < 6) (e3 : r 3 = nI V) : ge_N X ge_SH YX11_wearer 1 [.ref (ge_ad X.1 0)] (ge_k g 25 r x hb) (some (.int (nI V))) (ge_k g 25 (upd (p_addW r V) 3 (nI (V + 1))) x hb) := by
  refine gq_ofB (l := [(0, .ref (ge_ad X.1 0))]) (by decide) (Nat.le_of_ble_eq_true rfl) rfl ?_
  refine gq_aload_n (pc := 0) dX11_wearer_0 rfl ?_
  refine gq_getr (pc := 1) dX11_wearer_1 fl_X11_60_11 sh_0 rfl ?_
  refine kq_get12 (pw := 25) (pc := 4) (by decide) dX11_wearer_4 fl_X11_150_10 ?_
  refine gq_bipush (pc := 7) dX11_wearer_7 kb_6 ?_
  refine gq_ic_lt (pc := 9) 18 dX11_wearer_9 (by decide) (fun h_9 => ?_) (fun h_9 => ?_)
  · refine gq_aload_n (pc := 18) dX11_wearer_18 rfl ?_
    refine gq_getr (pc := 19) dX11_wearer_19 fl_X11_60_11 sh_0 rfl ?_
    refine gq_rV0i (pc := 22) dX11_wearer_22 cv_X11_153 sh_25 (k_addWearer hV e3) ⟨by decide, by decide⟩ rfl rfl (Nat.le_of_ble_eq_true rfl) ?_
    exact gq_iret (pc := 25) rfl dX11_wearer_25 ⟨rfl, rfl⟩
  · exact absurd (show r 3 < 6 by rw [e3]; exact (nI_ltI (b := 6) (by omega) (by omega)).mpr hV) h_9
set_option maxHeartbeats 400000 in
theorem c_wearer_er (e3 : r 3 = 6) : ge_N X ge_SH YX11_wearer 1 [.ref (ge_ad X.1 0)] (ge_k g 25 r x hb) (some (.int (-1000000000 - 4))) (ge_k (ge_up g 75 4 (g 75 4 + 1)) 25 r x hb) := by
  refine gq_ofB (l := [(0, .ref (ge_ad X.1 0))]) (by decide) (Nat.le_of_ble_eq_true rfl) rfl ?_
  refine gq_aload_n (pc := 0) dX11_wearer_0 rfl ?_
  refine gq_getr (pc := 1) dX11_wearer_1 fl_X11_60_11 sh_0 rfl ?_
  refine kq_get12 (pw := 25) (pc := 4) (by decide) dX11_wearer_4 fl_X11_150_10 ?_
  refine gq_bipush (pc := 7) dX11_wearer_7 kb_6 ?_
  refine gq_ic_lt (pc := 9) 18 dX11_wearer_9 (by decide) (fun h_9 => ?_) (fun h_9 => ?_)
  · exact absurd h_9 (by rw [e3]; decide)
  · refine gq_aload_n (pc := 12) dX11_wearer_12 rfl ?_
    refine gq_iconst (pc := 13) dX11_wearer_13 kc_4 ?_
    refine gq_rV1i (pc := 14) dX11_wearer_14 cv_X11_109 sh_0 (c_error kl_4 (by decide)) ⟨by decide, by decide⟩ rfl rfl (Nat.le_of_ble_eq_true rfl) ?_
    exact gq_iret (pc := 17) rfl dX11_wearer_17 ⟨rfl, rfl⟩
set_option maxHeartbeats 400000 in
theorem c_place (v : Int32) : ge_N X ge_SH YX11_placeNumber 0 [.int v] g (some (.int (10 * (v / 2) + p_rem v 2))) g := by
  refine gq_ofB (l := [(0, .int v)]) (by decide) (Nat.le_of_ble_eq_true rfl) rfl ?_
  refine gq_bipush (pc := 0) dX11_placeNumber_0 kb_10 ?_
  refine gq_iload_n (pc := 2) dX11_placeNumber_2 rfl ?_
  refine gq_iconst (pc := 3) dX11_placeNumber_3 kc_2 ?_
  refine gq_idiv (pc := 4) dX11_placeNumber_4 (by decide) ?_
  refine gq_imul (pc := 5) dX11_placeNumber_5 ?_
  refine gq_iload_n (pc := 6) dX11_placeNumber_6 rfl ?_
  refine gq_iconst (pc := 7) dX11_placeNumber_7 kc_2 ?_
  refine gq_irem (pc := 8) dX11_placeNumber_8 (by decide) (rfl : _ = p_rem _ _) ?_
  refine gq_iadd (pc := 9) dX11_placeNumber_9 ?_
  exact gq_iret (pc := 10) rfl dX11_placeNumber_10 ⟨rfl, rfl⟩
set_option maxHeartbeats 400000 in
theorem c_who {e : Int32} {V : Nat} (hV : V ≤ 6) (e3 : r 3 = nI V) : ge_N X ge_SH YX11_whoWears 1 [.ref (ge_ad X.1 0), .int e] (ge_k g 25 r x hb) (some (.int (if 0 ≤ p_sk r e (2 * V) 0 then 10 * (p_sk r e (2 * V) 0 / 2) + p_rem (p_sk r e (2 * V) 0) 2 else -1))) (ge_k g 25 r x hb) := by
  refine gq_ofB (l := [(0, .ref (ge_ad X.1 0)), (1, .int e)]) (by decide) (Nat.le_of_ble_eq_true rfl) rfl ?_
  refine gq_aload_n (pc := 0) dX11_whoWears_0 rfl ?_
  refine gq_getr (pc := 1) dX11_whoWears_1 fl_X11_60_11 sh_0 rfl ?_
  refine gq_iload_n (pc := 4) dX11_whoWears_4 rfl ?_
  refine gq_rV1i (pc := 5) dX11_whoWears_5 cv_X11_247 sh_25 (k_sock_25 hV e3) ⟨by decide, by decide⟩ rfl rfl (Nat.le_of_ble_eq_true rfl) ?_
  refine gq_istore_n (pc := 8) (l' := [(2, _), (0, _), (1, _)]) dX11_whoWears_8 (by decide) rfl ?_
  refine gq_iload_n (pc := 9) dX11_whoWears_9 rfl ?_
  refine gq_if_ge (pc := 10) 17 dX11_whoWears_10 (by decide) (fun h_10 => ?_) (fun h_10 => ?_)
  · refine gq_iload_n (pc := 17) dX11_whoWears_17 rfl ?_
    refine gq_rS1i (pc := 18) dX11_whoWears_18 cs_X11_256 (c_place _) ⟨by decide, by decide⟩ (Nat.le_of_ble_eq_true rfl) ?_
    exact gq_iret (pc := 21) rfl dX11_whoWears_21 ⟨by first | rw [if_pos h_10] | rw [if_neg h_10], rfl⟩
  · refine gq_iconst (pc := 13) dX11_whoWears_13 kc_m1 ?_
    refine gq_goto (pc := 14) 21 dX11_whoWears_14 (by decide) ?_
    exact gq_iret (pc := 21) rfl dX11_whoWears_21 ⟨by first | rw [if_pos h_10] | rw [if_neg h_10], rfl⟩
set_option maxHeartbeats 400000 in
theorem c_ofEye_ok0 {e : Int32} {j E V : Nat} (hI : p_inv c r) (hL : c_lw g r) (he : e = nI j) (hj : j < E) (hE : E ≤ 8) (e2 : r 2 = nI E) (hV : V ≤ 6) (e3 : r 3 = nI V) : ge_N X ge_SH YX11_ofEye 3 [.ref (ge_ad X.1 0), .int e, .int 0] (ge_k g 25 r x hb) (some (.int (p_e r j 0))) (ge_k g 25 r x hb) := by
  refine gq_ofB (l := [(0, .ref (ge_ad X.1 0)), (1, .int e), (2, .int 0)]) (by decide) (Nat.le_of_ble_eq_true rfl) rfl ?_
  refine gq_aload_n (pc := 0) dX11_ofEye_0 rfl ?_
  refine gq_iload_n (pc := 1) dX11_ofEye_1 rfl ?_
  refine gq_rV1i (pc := 2) dX11_ofEye_2 cv_X11_126 sh_0 (c_noEye _) ⟨by decide, by decide⟩ rfl rfl (Nat.le_of_ble_eq_true rfl) ?_
  refine gq_if_eq (pc := 5) 14 dX11_ofEye_5 (by decide) (fun h_5 => ?_) (fun h_5 => ?_)
  · refine gq_iload_n (pc := 14) dX11_ofEye_14 rfl ?_
    refine gq_tabI (pc := 15) (off := 41) 56 dX11_ofEye_15 (by decide) (by decide) (by decide) (by decide) ?_
    refine gq_aload_n (pc := 56) dX11_ofEye_56 rfl ?_
    refine gq_getr (pc := 57) dX11_ofEye_57 fl_X11_60_11 sh_0 rfl ?_
    refine gq_getr (pc := 60) dX11_ofEye_60 fl_X11_129_10 sh_25 rfl ?_
    refine gq_iload_n (pc := 63) dX11_ofEye_63 rfl ?_
    refine kq_ald2 (pw := 25) (pc := 64) (by decide) dX11_ofEye_64 he (by first | decide | omega) ?_
    exact gq_iret (pc := 65) rfl dX11_ofEye_65 ⟨rfl, rfl⟩
  · exact absurd (p_nt_0.mpr (p_in_E he hj (by omega) e2)) h_5
set_option maxHeartbeats 400000 in
theorem c_ofEye_ok1 {e : Int32} {j E V : Nat} (hI : p_inv c r) (hL : c_lw g r) (he : e = nI j) (hj : j < E) (hE : E ≤ 8) (e2 : r 2 = nI E) (hV : V ≤ 6) (e3 : r 3 = nI V) : ge_N X ge_SH YX11_ofEye 3 [.ref (ge_ad X.1 0), .int e, .int 1] (ge_k g 25 r x hb) (some (.int (p_e r j 1))) (ge_k g 25 r x hb) := by
  refine gq_ofB (l := [(0, .ref (ge_ad X.1 0)), (1, .int e), (2, .int 1)]) (by decide) (Nat.le_of_ble_eq_true rfl) rfl ?_
  refine gq_aload_n (pc := 0) dX11_ofEye_0 rfl ?_
  refine gq_iload_n (pc := 1) dX11_ofEye_1 rfl ?_
  refine gq_rV1i (pc := 2) dX11_ofEye_2 cv_X11_126 sh_0 (c_noEye _) ⟨by decide, by decide⟩ rfl rfl (Nat.le_of_ble_eq_true rfl) ?_
  refine gq_if_eq (pc := 5) 14 dX11_ofEye_5 (by decide) (fun h_5 => ?_) (fun h_5 => ?_)
  · refine gq_iload_n (pc := 14) dX11_ofEye_14 rfl ?_
    refine gq_tabI (pc := 15) (off := 51) 66 dX11_ofEye_15 (by decide) (by decide) (by decide) (by decide) ?_
    refine gq_aload_n (pc := 66) dX11_ofEye_66 rfl ?_
    refine gq_getr (pc := 67) dX11_ofEye_67 fl_X11_60_11 sh_0 rfl ?_
    refine gq_getr (pc := 70) dX11_ofEye_70 fl_X11_132_10 sh_25 rfl ?_
    refine gq_iload_n (pc := 73) dX11_ofEye_73 rfl ?_
    refine kq_ald3 (pw := 25) (pc := 74) (by decide) dX11_ofEye_74 he (by first | decide | omega) ?_
    exact gq_iret (pc := 75) rfl dX11_ofEye_75 ⟨rfl, rfl⟩
  · exact absurd (p_nt_0.mpr (p_in_E he hj (by omega) e2)) h_5
set_option maxHeartbeats 400000 in
theorem c_ofEye_ok2 {e : Int32} {j E V : Nat} (hI : p_inv c r) (hL : c_lw g r) (he : e = nI j) (hj : j < E) (hE : E ≤ 8) (e2 : r 2 = nI E) (hV : V ≤ 6) (e3 : r 3 = nI V) : ge_N X ge_SH YX11_ofEye 3 [.ref (ge_ad X.1 0), .int e, .int 2] (ge_k g 25 r x hb) (some (.int (p_e r j 2))) (ge_k g 25 r x hb) := by
  refine gq_ofB (l := [(0, .ref (ge_ad X.1 0)), (1, .int e), (2, .int 2)]) (by decide) (Nat.le_of_ble_eq_true rfl) rfl ?_
  refine gq_aload_n (pc := 0) dX11_ofEye_0 rfl ?_
  refine gq_iload_n (pc := 1) dX11_ofEye_1 rfl ?_
  refine gq_rV1i (pc := 2) dX11_ofEye_2 cv_X11_126 sh_0 (c_noEye _) ⟨by decide, by decide⟩ rfl rfl (Nat.le_of_ble_eq_true rfl) ?_
  refine gq_if_eq (pc := 5) 14 dX11_ofEye_5 (by decide) (fun h_5 => ?_) (fun h_5 => ?_)
  · refine gq_iload_n (pc := 14) dX11_ofEye_14 rfl ?_
    refine gq_tabI (pc := 15) (off := 61) 76 dX11_ofEye_15 (by decide) (by decide) (by decide) (by decide) ?_
    refine gq_aload_n (pc := 76) dX11_ofEye_76 rfl ?_
    refine gq_getr (pc := 77) dX11_ofEye_77 fl_X11_60_11 sh_0 rfl ?_
    refine gq_getr (pc := 80) dX11_ofEye_80 fl_X11_135_10 sh_25 rfl ?_
    refine gq_iload_n (pc := 83) dX11_ofEye_83 rfl ?_
    refine kq_ald4 (pw := 25) (pc := 84) (by decide) dX11_ofEye_84 he (by first | decide | omega) ?_
    exact gq_iret (pc := 85) rfl dX11_ofEye_85 ⟨rfl, rfl⟩
  · exact absurd (p_nt_0.mpr (p_in_E he hj (by omega) e2)) h_5
set_option maxHeartbeats 400000 in
theorem c_ofEye_ok3 {e : Int32} {j E V : Nat} (hI : p_inv c r) (hL : c_lw g r) (he : e = nI j) (hj : j < E) (hE : E ≤ 8) (e2 : r 2 = nI E) (hV : V ≤ 6) (e3 : r 3 = nI V) : ge_N X ge_SH YX11_ofEye 3 [.ref (ge_ad X.1 0), .int e, .int 3] (ge_k g 25 r x hb) (some (.int (p_e r j 3))) (ge_k g 25 r x hb) := by
  refine gq_ofB (l := [(0, .ref (ge_ad X.1 0)), (1, .int e), (2, .int 3)]) (by decide) (Nat.le_of_ble_eq_true rfl) rfl ?_
  refine gq_aload_n (pc := 0) dX11_ofEye_0 rfl ?_
  refine gq_iload_n (pc := 1) dX11_ofEye_1 rfl ?_
  refine gq_rV1i (pc := 2) dX11_ofEye_2 cv_X11_126 sh_0 (c_noEye _) ⟨by decide, by decide⟩ rfl rfl (Nat.le_of_ble_eq_true rfl) ?_
  refine gq_if_eq (pc := 5) 14 dX11_ofEye_5 (by decide) (fun h_5 => ?_) (fun h_5 => ?_)
  · refine gq_iload_n (pc := 14) dX11_ofEye_14 rfl ?_
    refine gq_tabI (pc := 15) (off := 71) 86 dX11_ofEye_15 (by decide) (by decide) (by decide) (by decide) ?_
    refine gq_aload_n (pc := 86) dX11_ofEye_86 rfl ?_
    refine gq_getr (pc := 87) dX11_ofEye_87 fl_X11_60_11 sh_0 rfl ?_
    refine gq_getr (pc := 90) dX11_ofEye_90 fl_X11_138_10 sh_25 rfl ?_
    refine gq_iload_n (pc := 93) dX11_ofEye_93 rfl ?_
    refine kq_ald5 (pw := 25) (pc := 94) (by decide) dX11_ofEye_94 he (by first | decide | omega) ?_
    exact gq_iret (pc := 95) rfl dX11_ofEye_95 ⟨rfl, rfl⟩
  · exact absurd (p_nt_0.mpr (p_in_E he hj (by omega) e2)) h_5
set_option maxHeartbeats 400000 in
theorem c_ofEye_ok4 {e : Int32} {j E V : Nat} (hI : p_inv c r) (hL : c_lw g r) (he : e = nI j) (hj : j < E) (hE : E ≤ 8) (e2 : r 2 = nI E) (hV : V ≤ 6) (e3 : r 3 = nI V) : ge_N X ge_SH YX11_ofEye 3 [.ref (ge_ad X.1 0), .int e, .int 4] (ge_k g 25 r x hb) (some (.int (if 0 ≤ p_sk r e (2 * V) 0 then 10 * (p_sk r e (2 * V) 0 / 2) + p_rem (p_sk r e (2 * V) 0) 2 else -1))) (ge_k g 25 r x hb) := by
  refine gq_ofB (l := [(0, .ref (ge_ad X.1 0)), (1, .int e), (2, .int 4)]) (by decide) (Nat.le_of_ble_eq_true rfl) rfl ?_
  refine gq_aload_n (pc := 0) dX11_ofEye_0 rfl ?_
  refine gq_iload_n (pc := 1) dX11_ofEye_1 rfl ?_
  refine gq_rV1i (pc := 2) dX11_ofEye_2 cv_X11_126 sh_0 (c_noEye _) ⟨by decide, by decide⟩ rfl rfl (Nat.le_of_ble_eq_true rfl) ?_
  refine gq_if_eq (pc := 5) 14 dX11_ofEye_5 (by decide) (fun h_5 => ?_) (fun h_5 => ?_)
  · refine gq_iload_n (pc := 14) dX11_ofEye_14 rfl ?_
    refine gq_tabI (pc := 15) (off := 81) 96 dX11_ofEye_15 (by decide) (by decide) (by decide) (by decide) ?_
    refine gq_aload_n (pc := 96) dX11_ofEye_96 rfl ?_
    refine gq_iload_n (pc := 97) dX11_ofEye_97 rfl ?_
    refine gq_rV1i (pc := 98) dX11_ofEye_98 cv_X11_141 sh_0 (c_who hV e3) ⟨by decide, by decide⟩ rfl rfl (Nat.le_of_ble_eq_true rfl) ?_
    exact gq_iret (pc := 101) rfl dX11_ofEye_101 ⟨rfl, rfl⟩
  · exact absurd (p_nt_0.mpr (p_in_E he hj (by omega) e2)) h_5
set_option maxHeartbeats 400000 in
theorem c_ofEye_ok5 {e : Int32} {j E V : Nat} (hI : p_inv c r) (hL : c_lw g r) (he : e = nI j) (hj : j < E) (hE : E ≤ 8) (e2 : r 2 = nI E) (hV : V ≤ 6) (e3 : r 3 = nI V) : ge_N X ge_SH YX11_ofEye 3 [.ref (ge_ad X.1 0), .int e, .int 5] (ge_k g 25 r x hb) (some (.int (p_shows r j))) (ge_k g 25 r x hb) := by
  refine gq_ofB (l := [(0, .ref (ge_ad X.1 0)), (1, .int e), (2, .int 5)]) (by decide) (Nat.le_of_ble_eq_true rfl) rfl ?_
  refine gq_aload_n (pc := 0) dX11_ofEye_0 rfl ?_
  refine gq_iload_n (pc := 1) dX11_ofEye_1 rfl ?_
  refine gq_rV1i (pc := 2) dX11_ofEye_2 cv_X11_126 sh_0 (c_noEye _) ⟨by decide, by decide⟩ rfl rfl (Nat.le_of_ble_eq_true rfl) ?_
  refine gq_if_eq (pc := 5) 14 dX11_ofEye_5 (by decide) (fun h_5 => ?_) (fun h_5 => ?_)
  · refine gq_iload_n (pc := 14) dX11_ofEye_14 rfl ?_
    refine gq_tabI (pc := 15) (off := 87) 102 dX11_ofEye_15 (by decide) (by decide) (by decide) (by decide) ?_
    refine gq_aload_n (pc := 102) dX11_ofEye_102 rfl ?_
    refine gq_getr (pc := 103) dX11_ofEye_103 fl_X11_60_11 sh_0 rfl ?_
    refine gq_iload_n (pc := 106) dX11_ofEye_106 rfl ?_
    refine gq_rV1i (pc := 107) dX11_ofEye_107 cv_X11_144 sh_25 (k_thing_25 hI hL he (by omega)) ⟨by decide, by decide⟩ rfl rfl (Nat.le_of_ble_eq_true rfl) ?_
    exact gq_iret (pc := 110) rfl dX11_ofEye_110 ⟨rfl, rfl⟩
  · exact absurd (p_nt_0.mpr (p_in_E he hj (by omega) e2)) h_5
set_option maxHeartbeats 400000 in
theorem c_ofEye_ok6 {e : Int32} {j E V : Nat} (hI : p_inv c r) (hL : c_lw g r) (he : e = nI j) (hj : j < E) (hE : E ≤ 8) (e2 : r 2 = nI E) (hV : V ≤ 6) (e3 : r 3 = nI V) : ge_N X ge_SH YX11_ofEye 3 [.ref (ge_ad X.1 0), .int e, .int 6] (ge_k g 25 r x hb) (some (.int (p_heavy r j))) (ge_k g 25 r x hb) := by
  refine gq_ofB (l := [(0, .ref (ge_ad X.1 0)), (1, .int e), (2, .int 6)]) (by decide) (Nat.le_of_ble_eq_true rfl) rfl ?_
  refine gq_aload_n (pc := 0) dX11_ofEye_0 rfl ?_
  refine gq_iload_n (pc := 1) dX11_ofEye_1 rfl ?_
  refine gq_rV1i (pc := 2) dX11_ofEye_2 cv_X11_126 sh_0 (c_noEye _) ⟨by decide, by decide⟩ rfl rfl (Nat.le_of_ble_eq_true rfl) ?_
  refine gq_if_eq (pc := 5) 14 dX11_ofEye_5 (by decide) (fun h_5 => ?_) (fun h_5 => ?_)
  · refine gq_iload_n (pc := 14) dX11_ofEye_14 rfl ?_
    refine gq_tabI (pc := 15) (off := 96) 111 dX11_ofEye_15 (by decide) (by decide) (by decide) (by decide) ?_
    refine gq_aload_n (pc := 111) dX11_ofEye_111 rfl ?_
    refine gq_getr (pc := 112) dX11_ofEye_112 fl_X11_60_11 sh_0 rfl ?_
    refine gq_iload_n (pc := 115) dX11_ofEye_115 rfl ?_
    refine gq_rV1i (pc := 116) dX11_ofEye_116 cv_X11_147 sh_25 (k_heavy_25 hI he (by omega)) ⟨by decide, by decide⟩ rfl rfl (Nat.le_of_ble_eq_true rfl) ?_
    exact gq_iret (pc := 119) rfl dX11_ofEye_119 ⟨rfl, rfl⟩
  · exact absurd (p_nt_0.mpr (p_in_E he hj (by omega) e2)) h_5
set_option maxHeartbeats 400000 in
theorem c_ofEye_er1 {e k : Int32} (h : p_in e 0 (r 2 - 1) = 0) : ge_N X ge_SH YX11_ofEye 3 [.ref (ge_ad X.1 0), .int e, .int k] (ge_k g 25 r x hb) (some (.int (-1000000000 - 1))) (ge_k (ge_up g 75 1 (g 75 1 + 1)) 25 r x hb) := by
  refine gq_ofB (l := [(0, .ref (ge_ad X.1 0)), (1, .int e), (2, .int k)]) (by decide) (Nat.le_of_ble_eq_true rfl) rfl ?_
  refine gq_aload_n (pc := 0) dX11_ofEye_0 rfl ?_
  refine gq_iload_n (pc := 1) dX11_ofEye_1 rfl ?_
  refine gq_rV1i (pc := 2) dX11_ofEye_2 cv_X11_126 sh_0 (c_noEye _) ⟨by decide, by decide⟩ rfl rfl (Nat.le_of_ble_eq_true rfl) ?_
  refine gq_if_eq (pc := 5) 14 dX11_ofEye_5 (by decide) (fun h_5 => ?_) (fun h_5 => ?_)
  · exact absurd h (p_nt_0.mp h_5)
  · refine gq_aload_n (pc := 8) dX11_ofEye_8 rfl ?_
    refine gq_iconst (pc := 9) dX11_ofEye_9 kc_1 ?_
    refine gq_rV1i (pc := 10) dX11_ofEye_10 cv_X11_109 sh_0 (c_error kl_1 (by decide)) ⟨by decide, by decide⟩ rfl rfl (Nat.le_of_ble_eq_true rfl) ?_
    exact gq_iret (pc := 13) rfl dX11_ofEye_13 ⟨rfl, rfl⟩
set_option maxHeartbeats 400000 in
theorem c_ofEye_er2 {e k : Int32} (h : ¬ p_in e 0 (r 2 - 1) = 0) (hk : k.toInt < 0 ∨ 6 < k.toInt) : ge_N X ge_SH YX11_ofEye 3 [.ref (ge_ad X.1 0), .int e, .int k] (ge_k g 25 r x hb) (some (.int (-1000000000 - 1))) (ge_k (ge_up g 75 1 (g 75 1 + 1)) 25 r x hb) := by
  refine gq_ofB (l := [(0, .ref (ge_ad X.1 0)), (1, .int e), (2, .int k)]) (by decide) (Nat.le_of_ble_eq_true rfl) rfl ?_
  refine gq_aload_n (pc := 0) dX11_ofEye_0 rfl ?_
  refine gq_iload_n (pc := 1) dX11_ofEye_1 rfl ?_
  refine gq_rV1i (pc := 2) dX11_ofEye_2 cv_X11_126 sh_0 (c_noEye _) ⟨by decide, by decide⟩ rfl rfl (Nat.le_of_ble_eq_true rfl) ?_
  refine gq_if_eq (pc := 5) 14 dX11_ofEye_5 (by decide) (fun h_5 => ?_) (fun h_5 => ?_)
  · refine gq_iload_n (pc := 14) dX11_ofEye_14 rfl ?_
    refine gq_tabO (pc := 15) 120 dX11_ofEye_15 hk (by decide) ?_
    refine gq_aload_n (pc := 120) dX11_ofEye_120 rfl ?_
    refine gq_iconst (pc := 121) dX11_ofEye_121 kc_1 ?_
    refine gq_rV1i (pc := 122) dX11_ofEye_122 cv_X11_109 sh_0 (c_error kl_1 (by decide)) ⟨by decide, by decide⟩ rfl rfl (Nat.le_of_ble_eq_true rfl) ?_
    exact gq_iret (pc := 125) rfl dX11_ofEye_125 ⟨rfl, rfl⟩
  · exact absurd (p_nt_0.mpr h) h_5
set_option maxHeartbeats 400000 in
theorem c_change_ok0 {e v : Int32} {j b E : Nat} (he : e = nI j) (hj : j < E) (hE : E ≤ 8) (e2 : r 2 = nI E) (hb1 : v = nI b) (hb2 : b ≤ 9) : ge_N X ge_SH YX11_change 2 [.ref (ge_ad X.1 0), .int e, .int 0, .int v] (ge_k g 25 r x hb) (some (.int (p_e r j 2))) (ge_k g 25 (p_ue r j 2 v) x hb) := by
  refine gq_ofB (l := [(0, .ref (ge_ad X.1 0)), (1, .int e), (2, .int 0), (3, .int v)]) (by decide) (Nat.le_of_ble_eq_true rfl) rfl ?_
  refine gq_aload_n (pc := 0) dX11_change_0 rfl ?_
  refine gq_iload_n (pc := 1) dX11_change_1 rfl ?_
  refine gq_rV1i (pc := 2) dX11_change_2 cv_X11_126 sh_0 (c_noEye _) ⟨by decide, by decide⟩ rfl rfl (Nat.le_of_ble_eq_true rfl) ?_
  refine gq_if_ne (pc := 5) 37 dX11_change_5 (by decide) (fun h_5 => ?_) (fun h_5 => ?_)
  · exact absurd (p_nt_0.mpr (p_in_E he hj (by omega) e2)) h_5
  · refine gq_iload_n (pc := 8) dX11_change_8 rfl ?_
    refine gq_iconst (pc := 9) dX11_change_9 kc_0 ?_
    refine gq_iconst (pc := 10) dX11_change_10 kc_1 ?_
    refine gq_rS3i (pc := 11) dX11_change_11 cs_X11_105 (c_outside _ _ _) ⟨by decide, by decide⟩ (Nat.le_of_ble_eq_true rfl) ?_
    refine gq_if_ne (pc := 14) 37 dX11_change_14 (by decide) (fun h_14 => ?_) (fun h_14 => ?_)
    · exact absurd (show p_nt (p_in 0 0 1) = 0 by decide) h_14
    · refine gq_iload_n (pc := 17) dX11_change_17 rfl ?_
      refine gq_iconst (pc := 18) dX11_change_18 kc_0 ?_
      refine gq_iload_n (pc := 19) dX11_change_19 rfl ?_
      refine gq_if_ne (pc := 20) 28 dX11_change_20 (by decide) (fun h_20 => ?_) (fun h_20 => ?_)
      · exact absurd h_20 (by decide)
      · refine gq_bipush (pc := 23) dX11_change_23 kb_9 ?_
        refine gq_goto (pc := 25) 31 dX11_change_25 (by decide) ?_
        refine gq_rS3i (pc := 31) dX11_change_31 cs_X11_105 (c_outside _ _ _) ⟨by decide, by decide⟩ (Nat.le_of_ble_eq_true rfl) ?_
        refine gq_if_eq (pc := 34) 43 dX11_change_34 (by decide) (fun h_34 => ?_) (fun h_34 => ?_)
        · refine gq_iload_n (pc := 43) dX11_change_43 rfl ?_
          refine gq_if_ne (pc := 44) 57 dX11_change_44 (by decide) (fun h_44 => ?_) (fun h_44 => ?_)
          · exact absurd h_44 (by decide)
          · refine gq_aload_n (pc := 47) dX11_change_47 rfl ?_
            refine gq_getr (pc := 48) dX11_change_48 fl_X11_60_11 sh_0 rfl ?_
            refine gq_getr (pc := 51) dX11_change_51 fl_X11_135_10 sh_25 rfl ?_
            refine gq_goto (pc := 54) 64 dX11_change_54 (by decide) ?_
            refine gq_astore (pc := 64) (l' := [(4, _), (0, _), (1, _), (2, _), (3, _)]) dX11_change_64 (by decide) rfl ?_
            refine gq_aload (pc := 66) dX11_change_66 rfl ?_
            refine gq_iload_n (pc := 68) dX11_change_68 rfl ?_
            refine kq_ald4 (pw := 25) (pc := 69) (by decide) dX11_change_69 he (by first | decide | omega) ?_
            refine gq_istore (pc := 70) (l' := [(5, _), (4, _), (0, _), (1, _), (2, _), (3, _)]) dX11_change_70 (by decide) rfl ?_
            refine gq_aload (pc := 72) dX11_change_72 rfl ?_
            refine gq_iload_n (pc := 74) dX11_change_74 rfl ?_
            refine gq_iload_n (pc := 75) dX11_change_75 rfl ?_
            refine kq_ast4 (pw := 25) (pc := 76) (by decide) dX11_change_76 he (by first | decide | omega) ?_
            refine gq_iload (pc := 77) dX11_change_77 rfl ?_
            exact gq_iret (pc := 79) rfl dX11_change_79 ⟨rfl, rfl⟩
        · exact absurd (p_nt_0.mpr (p_in_le (N := 9) hb1 hb2 (by decide))) h_34
set_option maxHeartbeats 400000 in
theorem c_change_ok1 {e v : Int32} {j b E : Nat} (he : e = nI j) (hj : j < E) (hE : E ≤ 8) (e2 : r 2 = nI E) (hb1 : v = nI b) (hb2 : b ≤ 9999) : ge_N X ge_SH YX11_change 2 [.ref (ge_ad X.1 0), .int e, .int 1, .int v] (ge_k g 25 r x hb) (some (.int (p_e r j 3))) (ge_k g 25 (p_ue r j 3 v) x hb) := by
  refine gq_ofB (l := [(0, .ref (ge_ad X.1 0)), (1, .int e), (2, .int 1), (3, .int v)]) (by decide) (Nat.le_of_ble_eq_true rfl) rfl ?_
  refine gq_aload_n (pc := 0) dX11_change_0 rfl ?_
  refine gq_iload_n (pc := 1) dX11_change_1 rfl ?_
  refine gq_rV1i (pc := 2) dX11_change_2 cv_X11_126 sh_0 (c_noEye _) ⟨by decide, by decide⟩ rfl rfl (Nat.le_of_ble_eq_true rfl) ?_
  refine gq_if_ne (pc := 5) 37 dX11_change_5 (by decide) (fun h_5 => ?_) (fun h_5 => ?_)
  · exact absurd (p_nt_0.mpr (p_in_E he hj (by omega) e2)) h_5
  · refine gq_iload_n (pc := 8) dX11_change_8 rfl ?_
    refine gq_iconst (pc := 9) dX11_change_9 kc_0 ?_
    refine gq_iconst (pc := 10) dX11_change_10 kc_1 ?_
    refine gq_rS3i (pc := 11) dX11_change_11 cs_X11_105 (c_outside _ _ _) ⟨by decide, by decide⟩ (Nat.le_of_ble_eq_true rfl) ?_
    refine gq_if_ne (pc := 14) 37 dX11_change_14 (by decide) (fun h_14 => ?_) (fun h_14 => ?_)
    · exact absurd (show p_nt (p_in 1 0 1) = 0 by decide) h_14
    · refine gq_iload_n (pc := 17) dX11_change_17 rfl ?_
      refine gq_iconst (pc := 18) dX11_change_18 kc_0 ?_
      refine gq_iload_n (pc := 19) dX11_change_19 rfl ?_
      refine gq_if_ne (pc := 20) 28 dX11_change_20 (by decide) (fun h_20 => ?_) (fun h_20 => ?_)
      · refine gq_sipush (pc := 28) dX11_change_28 kq_9999 ?_
        refine gq_rS3i (pc := 31) dX11_change_31 cs_X11_105 (c_outside _ _ _) ⟨by decide, by decide⟩ (Nat.le_of_ble_eq_true rfl) ?_
        refine gq_if_eq (pc := 34) 43 dX11_change_34 (by decide) (fun h_34 => ?_) (fun h_34 => ?_)
        · refine gq_iload_n (pc := 43) dX11_change_43 rfl ?_
          refine gq_if_ne (pc := 44) 57 dX11_change_44 (by decide) (fun h_44 => ?_) (fun h_44 => ?_)
          · refine gq_aload_n (pc := 57) dX11_change_57 rfl ?_
            refine gq_getr (pc := 58) dX11_change_58 fl_X11_60_11 sh_0 rfl ?_
            refine gq_getr (pc := 61) dX11_change_61 fl_X11_138_10 sh_25 rfl ?_
            refine gq_astore (pc := 64) (l' := [(4, _), (0, _), (1, _), (2, _), (3, _)]) dX11_change_64 (by decide) rfl ?_
            refine gq_aload (pc := 66) dX11_change_66 rfl ?_
            refine gq_iload_n (pc := 68) dX11_change_68 rfl ?_
            refine kq_ald5 (pw := 25) (pc := 69) (by decide) dX11_change_69 he (by first | decide | omega) ?_
            refine gq_istore (pc := 70) (l' := [(5, _), (4, _), (0, _), (1, _), (2, _), (3, _)]) dX11_change_70 (by decide) rfl ?_
            refine gq_aload (pc := 72) dX11_change_72 rfl ?_
            refine gq_iload_n (pc := 74) dX11_change_74 rfl ?_
            refine gq_iload_n (pc := 75) dX11_change_75 rfl ?_
            refine kq_ast5 (pw := 25) (pc := 76) (by decide) dX11_change_76 he (by first | decide | omega) ?_
            refine gq_iload (pc := 77) dX11_change_77 rfl ?_
            exact gq_iret (pc := 79) rfl dX11_change_79 ⟨rfl, rfl⟩
          · exact absurd h_44 (by decide)
        · exact absurd (p_nt_0.mpr (p_in_le (N := 9999) hb1 hb2 (by decide))) h_34
      · exact absurd h_20 (by decide)
set_option maxHeartbeats 400000 in
theorem c_change_er {e k v : Int32} (h : p_in e 0 (r 2 - 1) = 0 ∨ p_in k 0 1 = 0 ∨ (k = 0 ∧ p_in v 0 9 = 0) ∨ (¬ k = 0 ∧ p_in v 0 9999 = 0)) : ge_N X ge_SH YX11_change 2 [.ref (ge_ad X.1 0), .int e, .int k, .int v] (ge_k g 25 r x hb) (some (.int (-1000000000 - 1))) (ge_k (ge_up g 75 1 (g 75 1 + 1)) 25 r x hb) := by
  refine gq_ofB (l := [(0, .ref (ge_ad X.1 0)), (1, .int e), (2, .int k), (3, .int v)]) (by decide) (Nat.le_of_ble_eq_true rfl) rfl ?_
  refine gq_aload_n (pc := 0) dX11_change_0 rfl ?_
  refine gq_iload_n (pc := 1) dX11_change_1 rfl ?_
  refine gq_rV1i (pc := 2) dX11_change_2 cv_X11_126 sh_0 (c_noEye _) ⟨by decide, by decide⟩ rfl rfl (Nat.le_of_ble_eq_true rfl) ?_
  refine gq_if_ne (pc := 5) 37 dX11_change_5 (by decide) (fun h_5 => ?_) (fun h_5 => ?_)
  · refine gq_aload_n (pc := 37) dX11_change_37 rfl ?_
    refine gq_iconst (pc := 38) dX11_change_38 kc_1 ?_
    refine gq_rV1i (pc := 39) dX11_change_39 cv_X11_109 sh_0 (c_error kl_1 (by decide)) ⟨by decide, by decide⟩ rfl rfl (Nat.le_of_ble_eq_true rfl) ?_
    exact gq_iret (pc := 42) rfl dX11_change_42 ⟨rfl, rfl⟩
  · refine gq_iload_n (pc := 8) dX11_change_8 rfl ?_
    refine gq_iconst (pc := 9) dX11_change_9 kc_0 ?_
    refine gq_iconst (pc := 10) dX11_change_10 kc_1 ?_
    refine gq_rS3i (pc := 11) dX11_change_11 cs_X11_105 (c_outside _ _ _) ⟨by decide, by decide⟩ (Nat.le_of_ble_eq_true rfl) ?_
    refine gq_if_ne (pc := 14) 37 dX11_change_14 (by decide) (fun h_14 => ?_) (fun h_14 => ?_)
    · refine gq_aload_n (pc := 37) dX11_change_37 rfl ?_
      refine gq_iconst (pc := 38) dX11_change_38 kc_1 ?_
      refine gq_rV1i (pc := 39) dX11_change_39 cv_X11_109 sh_0 (c_error kl_1 (by decide)) ⟨by decide, by decide⟩ rfl rfl (Nat.le_of_ble_eq_true rfl) ?_
      exact gq_iret (pc := 42) rfl dX11_change_42 ⟨rfl, rfl⟩
    · refine gq_iload_n (pc := 17) dX11_change_17 rfl ?_
      refine gq_iconst (pc := 18) dX11_change_18 kc_0 ?_
      refine gq_iload_n (pc := 19) dX11_change_19 rfl ?_
      refine gq_if_ne (pc := 20) 28 dX11_change_20 (by decide) (fun h_20 => ?_) (fun h_20 => ?_)
      · refine gq_sipush (pc := 28) dX11_change_28 kq_9999 ?_
        refine gq_rS3i (pc := 31) dX11_change_31 cs_X11_105 (c_outside _ _ _) ⟨by decide, by decide⟩ (Nat.le_of_ble_eq_true rfl) ?_
        refine gq_if_eq (pc := 34) 43 dX11_change_34 (by decide) (fun h_34 => ?_) (fun h_34 => ?_)
        · exact (h.elim (p_nt_0.mp h_5) (fun q => q.elim (p_nt_0.mp h_14) (fun q => q.elim (fun q => by first | exact (p_nt_0.mp h_34) q.2 | exact h_20 q.1) (fun q => by first | exact (p_nt_0.mp h_34) q.2 | exact q.1 h_20)))).elim
        · refine gq_aload_n (pc := 37) dX11_change_37 rfl ?_
          refine gq_iconst (pc := 38) dX11_change_38 kc_1 ?_
          refine gq_rV1i (pc := 39) dX11_change_39 cv_X11_109 sh_0 (c_error kl_1 (by decide)) ⟨by decide, by decide⟩ rfl rfl (Nat.le_of_ble_eq_true rfl) ?_
          exact gq_iret (pc := 42) rfl dX11_change_42 ⟨rfl, rfl⟩
      · refine gq_bipush (pc := 23) dX11_change_23 kb_9 ?_
        refine gq_goto (pc := 25) 31 dX11_change_25 (by decide) ?_
        refine gq_rS3i (pc := 31) dX11_change_31 cs_X11_105 (c_outside _ _ _) ⟨by decide, by decide⟩ (Nat.le_of_ble_eq_true rfl) ?_
        refine gq_if_eq (pc := 34) 43 dX11_change_34 (by decide) (fun h_34 => ?_) (fun h_34 => ?_)
        · exact (h.elim (p_nt_0.mp h_5) (fun q => q.elim (p_nt_0.mp h_14) (fun q => q.elim (fun q => by first | exact (p_nt_0.mp h_34) q.2 | exact h_20 q.1) (fun q => by first | exact (p_nt_0.mp h_34) q.2 | exact q.1 h_20)))).elim
        · refine gq_aload_n (pc := 37) dX11_change_37 rfl ?_
          refine gq_iconst (pc := 38) dX11_change_38 kc_1 ?_
          refine gq_rV1i (pc := 39) dX11_change_39 cv_X11_109 sh_0 (c_error kl_1 (by decide)) ⟨by decide, by decide⟩ rfl rfl (Nat.le_of_ble_eq_true rfl) ?_
          exact gq_iret (pc := 42) rfl dX11_change_42 ⟨rfl, rfl⟩
set_option maxHeartbeats 400000 in
theorem c_set_ok0 {e v : Int32} {j b E : Nat} (he : e = nI j) (hj : j < E) (hE : E ≤ 6) (e2 : r 3 = nI E) (hb1 : v = nI b) (hb2 : b ≤ 99) : ge_N X ge_SH YX11_set 2 [.ref (ge_ad X.1 0), .int e, .int 0, .int v] (ge_k g 25 r x hb) (some (.int (p_o r j 2))) (ge_k g 25 (p_uo r j 2 v) x hb) := by
  refine gq_ofB (l := [(0, .ref (ge_ad X.1 0)), (1, .int e), (2, .int 0), (3, .int v)]) (by decide) (Nat.le_of_ble_eq_true rfl) rfl ?_
  refine gq_aload_n (pc := 0) dX11_set_0 rfl ?_
  refine gq_iload_n (pc := 1) dX11_set_1 rfl ?_
  refine gq_rV1i (pc := 2) dX11_set_2 cv_X11_157 sh_0 (c_noWearer _) ⟨by decide, by decide⟩ rfl rfl (Nat.le_of_ble_eq_true rfl) ?_
  refine gq_if_ne (pc := 5) 37 dX11_set_5 (by decide) (fun h_5 => ?_) (fun h_5 => ?_)
  · exact absurd (p_nt_0.mpr (p_in_E he hj (by omega) e2)) h_5
  · refine gq_iload_n (pc := 8) dX11_set_8 rfl ?_
    refine gq_iconst (pc := 9) dX11_set_9 kc_0 ?_
    refine gq_iconst (pc := 10) dX11_set_10 kc_1 ?_
    refine gq_rS3i (pc := 11) dX11_set_11 cs_X11_105 (c_outside _ _ _) ⟨by decide, by decide⟩ (Nat.le_of_ble_eq_true rfl) ?_
    refine gq_if_ne (pc := 14) 37 dX11_set_14 (by decide) (fun h_14 => ?_) (fun h_14 => ?_)
    · exact absurd (show p_nt (p_in 0 0 1) = 0 by decide) h_14
    · refine gq_iload_n (pc := 17) dX11_set_17 rfl ?_
      refine gq_iconst (pc := 18) dX11_set_18 kc_0 ?_
      refine gq_iload_n (pc := 19) dX11_set_19 rfl ?_
      refine gq_if_ne (pc := 20) 28 dX11_set_20 (by decide) (fun h_20 => ?_) (fun h_20 => ?_)
      · exact absurd h_20 (by decide)
      · refine gq_bipush (pc := 23) dX11_set_23 kb_99 ?_
        refine gq_goto (pc := 25) 31 dX11_set_25 (by decide) ?_
        refine gq_rS3i (pc := 31) dX11_set_31 cs_X11_105 (c_outside _ _ _) ⟨by decide, by decide⟩ (Nat.le_of_ble_eq_true rfl) ?_
        refine gq_if_eq (pc := 34) 43 dX11_set_34 (by decide) (fun h_34 => ?_) (fun h_34 => ?_)
        · refine gq_iload_n (pc := 43) dX11_set_43 rfl ?_
          refine gq_if_ne (pc := 44) 57 dX11_set_44 (by decide) (fun h_44 => ?_) (fun h_44 => ?_)
          · exact absurd h_44 (by decide)
          · refine gq_aload_n (pc := 47) dX11_set_47 rfl ?_
            refine gq_getr (pc := 48) dX11_set_48 fl_X11_60_11 sh_0 rfl ?_
            refine gq_getr (pc := 51) dX11_set_51 fl_X11_167_10 sh_25 rfl ?_
            refine gq_goto (pc := 54) 64 dX11_set_54 (by decide) ?_
            refine gq_astore (pc := 64) (l' := [(4, _), (0, _), (1, _), (2, _), (3, _)]) dX11_set_64 (by decide) rfl ?_
            refine gq_aload (pc := 66) dX11_set_66 rfl ?_
            refine gq_iload_n (pc := 68) dX11_set_68 rfl ?_
            refine kq_ald7 (pw := 25) (pc := 69) (by decide) dX11_set_69 he (by first | decide | omega) ?_
            refine gq_istore (pc := 70) (l' := [(5, _), (4, _), (0, _), (1, _), (2, _), (3, _)]) dX11_set_70 (by decide) rfl ?_
            refine gq_aload (pc := 72) dX11_set_72 rfl ?_
            refine gq_iload_n (pc := 74) dX11_set_74 rfl ?_
            refine gq_iload_n (pc := 75) dX11_set_75 rfl ?_
            refine kq_ast7 (pw := 25) (pc := 76) (by decide) dX11_set_76 he (by first | decide | omega) ?_
            refine gq_iload (pc := 77) dX11_set_77 rfl ?_
            exact gq_iret (pc := 79) rfl dX11_set_79 ⟨rfl, rfl⟩
        · exact absurd (p_nt_0.mpr (p_in_le (N := 99) hb1 hb2 (by decide))) h_34
set_option maxHeartbeats 400000 in
theorem c_set_ok1 {e v : Int32} {j b E : Nat} (he : e = nI j) (hj : j < E) (hE : E ≤ 6) (e2 : r 3 = nI E) (hb1 : v = nI b) (hb2 : b ≤ 1023) : ge_N X ge_SH YX11_set 2 [.ref (ge_ad X.1 0), .int e, .int 1, .int v] (ge_k g 25 r x hb) (some (.int (p_o r j 3))) (ge_k g 25 (p_uo r j 3 v) x hb) := by
  refine gq_ofB (l := [(0, .ref (ge_ad X.1 0)), (1, .int e), (2, .int 1), (3, .int v)]) (by decide) (Nat.le_of_ble_eq_true rfl) rfl ?_
  refine gq_aload_n (pc := 0) dX11_set_0 rfl ?_
  refine gq_iload_n (pc := 1) dX11_set_1 rfl ?_
  refine gq_rV1i (pc := 2) dX11_set_2 cv_X11_157 sh_0 (c_noWearer _) ⟨by decide, by decide⟩ rfl rfl (Nat.le_of_ble_eq_true rfl) ?_
  refine gq_if_ne (pc := 5) 37 dX11_set_5 (by decide) (fun h_5 => ?_) (fun h_5 => ?_)
  · exact absurd (p_nt_0.mpr (p_in_E he hj (by omega) e2)) h_5
  · refine gq_iload_n (pc := 8) dX11_set_8 rfl ?_
    refine gq_iconst (pc := 9) dX11_set_9 kc_0 ?_
    refine gq_iconst (pc := 10) dX11_set_10 kc_1 ?_
    refine gq_rS3i (pc := 11) dX11_set_11 cs_X11_105 (c_outside _ _ _) ⟨by decide, by decide⟩ (Nat.le_of_ble_eq_true rfl) ?_
    refine gq_if_ne (pc := 14) 37 dX11_set_14 (by decide) (fun h_14 => ?_) (fun h_14 => ?_)
    · exact absurd (show p_nt (p_in 1 0 1) = 0 by decide) h_14
    · refine gq_iload_n (pc := 17) dX11_set_17 rfl ?_
      refine gq_iconst (pc := 18) dX11_set_18 kc_0 ?_
      refine gq_iload_n (pc := 19) dX11_set_19 rfl ?_
      refine gq_if_ne (pc := 20) 28 dX11_set_20 (by decide) (fun h_20 => ?_) (fun h_20 => ?_)
      · refine gq_sipush (pc := 28) dX11_set_28 kq_1023 ?_
        refine gq_rS3i (pc := 31) dX11_set_31 cs_X11_105 (c_outside _ _ _) ⟨by decide, by decide⟩ (Nat.le_of_ble_eq_true rfl) ?_
        refine gq_if_eq (pc := 34) 43 dX11_set_34 (by decide) (fun h_34 => ?_) (fun h_34 => ?_)
        · refine gq_iload_n (pc := 43) dX11_set_43 rfl ?_
          refine gq_if_ne (pc := 44) 57 dX11_set_44 (by decide) (fun h_44 => ?_) (fun h_44 => ?_)
          · refine gq_aload_n (pc := 57) dX11_set_57 rfl ?_
            refine gq_getr (pc := 58) dX11_set_58 fl_X11_60_11 sh_0 rfl ?_
            refine gq_getr (pc := 61) dX11_set_61 fl_X11_170_10 sh_25 rfl ?_
            refine gq_astore (pc := 64) (l' := [(4, _), (0, _), (1, _), (2, _), (3, _)]) dX11_set_64 (by decide) rfl ?_
            refine gq_aload (pc := 66) dX11_set_66 rfl ?_
            refine gq_iload_n (pc := 68) dX11_set_68 rfl ?_
            refine kq_ald8 (pw := 25) (pc := 69) (by decide) dX11_set_69 he (by first | decide | omega) ?_
            refine gq_istore (pc := 70) (l' := [(5, _), (4, _), (0, _), (1, _), (2, _), (3, _)]) dX11_set_70 (by decide) rfl ?_
            refine gq_aload (pc := 72) dX11_set_72 rfl ?_
            refine gq_iload_n (pc := 74) dX11_set_74 rfl ?_
            refine gq_iload_n (pc := 75) dX11_set_75 rfl ?_
            refine kq_ast8 (pw := 25) (pc := 76) (by decide) dX11_set_76 he (by first | decide | omega) ?_
            refine gq_iload (pc := 77) dX11_set_77 rfl ?_
            exact gq_iret (pc := 79) rfl dX11_set_79 ⟨rfl, rfl⟩
          · exact absurd h_44 (by decide)
        · exact absurd (p_nt_0.mpr (p_in_le (N := 1023) hb1 hb2 (by decide))) h_34
      · exact absurd h_20 (by decide)
set_option maxHeartbeats 400000 in
theorem c_set_er {e k v : Int32} (h : p_in e 0 (r 3 - 1) = 0 ∨ p_in k 0 1 = 0 ∨ (k = 0 ∧ p_in v 0 99 = 0) ∨ (¬ k = 0 ∧ p_in v 0 1023 = 0)) : ge_N X ge_SH YX11_set 2 [.ref (ge_ad X.1 0), .int e, .int k, .int v] (ge_k g 25 r x hb) (some (.int (-1000000000 - 1))) (ge_k (ge_up g 75 1 (g 75 1 + 1)) 25 r x hb) := by
  refine gq_ofB (l := [(0, .ref (ge_ad X.1 0)), (1, .int e), (2, .int k), (3, .int v)]) (by decide) (Nat.le_of_ble_eq_true rfl) rfl ?_
  refine gq_aload_n (pc := 0) dX11_set_0 rfl ?_
  refine gq_iload_n (pc := 1) dX11_set_1 rfl ?_
  refine gq_rV1i (pc := 2) dX11_set_2 cv_X11_157 sh_0 (c_noWearer _) ⟨by decide, by decide⟩ rfl rfl (Nat.le_of_ble_eq_true rfl) ?_
  refine gq_if_ne (pc := 5) 37 dX11_set_5 (by decide) (fun h_5 => ?_) (fun h_5 => ?_)
  · refine gq_aload_n (pc := 37) dX11_set_37 rfl ?_
    refine gq_iconst (pc := 38) dX11_set_38 kc_1 ?_
    refine gq_rV1i (pc := 39) dX11_set_39 cv_X11_109 sh_0 (c_error kl_1 (by decide)) ⟨by decide, by decide⟩ rfl rfl (Nat.le_of_ble_eq_true rfl) ?_
    exact gq_iret (pc := 42) rfl dX11_set_42 ⟨rfl, rfl⟩
  · refine gq_iload_n (pc := 8) dX11_set_8 rfl ?_
    refine gq_iconst (pc := 9) dX11_set_9 kc_0 ?_
    refine gq_iconst (pc := 10) dX11_set_10 kc_1 ?_
    refine gq_rS3i (pc := 11) dX11_set_11 cs_X11_105 (c_outside _ _ _) ⟨by decide, by decide⟩ (Nat.le_of_ble_eq_true rfl) ?_
    refine gq_if_ne (pc := 14) 37 dX11_set_14 (by decide) (fun h_14 => ?_) (fun h_14 => ?_)
    · refine gq_aload_n (pc := 37) dX11_set_37 rfl ?_
      refine gq_iconst (pc := 38) dX11_set_38 kc_1 ?_
      refine gq_rV1i (pc := 39) dX11_set_39 cv_X11_109 sh_0 (c_error kl_1 (by decide)) ⟨by decide, by decide⟩ rfl rfl (Nat.le_of_ble_eq_true rfl) ?_
      exact gq_iret (pc := 42) rfl dX11_set_42 ⟨rfl, rfl⟩
    · refine gq_iload_n (pc := 17) dX11_set_17 rfl ?_
      refine gq_iconst (pc := 18) dX11_set_18 kc_0 ?_
      refine gq_iload_n (pc := 19) dX11_set_19 rfl ?_
      refine gq_if_ne (pc := 20) 28 dX11_set_20 (by decide) (fun h_20 => ?_) (fun h_20 => ?_)
      · refine gq_sipush (pc := 28) dX11_set_28 kq_1023 ?_
        refine gq_rS3i (pc := 31) dX11_set_31 cs_X11_105 (c_outside _ _ _) ⟨by decide, by decide⟩ (Nat.le_of_ble_eq_true rfl) ?_
        refine gq_if_eq (pc := 34) 43 dX11_set_34 (by decide) (fun h_34 => ?_) (fun h_34 => ?_)
        · exact (h.elim (p_nt_0.mp h_5) (fun q => q.elim (p_nt_0.mp h_14) (fun q => q.elim (fun q => by first | exact (p_nt_0.mp h_34) q.2 | exact h_20 q.1) (fun q => by first | exact (p_nt_0.mp h_34) q.2 | exact q.1 h_20)))).elim
        · refine gq_aload_n (pc := 37) dX11_set_37 rfl ?_
          refine gq_iconst (pc := 38) dX11_set_38 kc_1 ?_
          refine gq_rV1i (pc := 39) dX11_set_39 cv_X11_109 sh_0 (c_error kl_1 (by decide)) ⟨by decide, by decide⟩ rfl rfl (Nat.le_of_ble_eq_true rfl) ?_
          exact gq_iret (pc := 42) rfl dX11_set_42 ⟨rfl, rfl⟩
      · refine gq_bipush (pc := 23) dX11_set_23 kb_99 ?_
        refine gq_goto (pc := 25) 31 dX11_set_25 (by decide) ?_
        refine gq_rS3i (pc := 31) dX11_set_31 cs_X11_105 (c_outside _ _ _) ⟨by decide, by decide⟩ (Nat.le_of_ble_eq_true rfl) ?_
        refine gq_if_eq (pc := 34) 43 dX11_set_34 (by decide) (fun h_34 => ?_) (fun h_34 => ?_)
        · exact (h.elim (p_nt_0.mp h_5) (fun q => q.elim (p_nt_0.mp h_14) (fun q => q.elim (fun q => by first | exact (p_nt_0.mp h_34) q.2 | exact h_20 q.1) (fun q => by first | exact (p_nt_0.mp h_34) q.2 | exact q.1 h_20)))).elim
        · refine gq_aload_n (pc := 37) dX11_set_37 rfl ?_
          refine gq_iconst (pc := 38) dX11_set_38 kc_1 ?_
          refine gq_rV1i (pc := 39) dX11_set_39 cv_X11_109 sh_0 (c_error kl_1 (by decide)) ⟨by decide, by decide⟩ rfl rfl (Nat.le_of_ble_eq_true rfl) ?_
          exact gq_iret (pc := 42) rfl dX11_set_42 ⟨rfl, rfl⟩
set_option maxHeartbeats 400000 in
theorem c_ofWearer_ok0 {w : Int32} {i V : Nat} (hI : p_inv c r) (hL : c_lw g r) (hw : w = nI i) (hi : i < V) (hV : V ≤ 6) (e3 : r 3 = nI V) : ge_N X ge_SH YX11_ofWearer 4 [.ref (ge_ad X.1 0), .int w, .int 0] (ge_k g 25 r x hb) (some (.int (p_o r i 0))) (ge_k g 25 r x hb) := by
  refine gq_ofB (l := [(0, .ref (ge_ad X.1 0)), (1, .int w), (2, .int 0)]) (by decide) (Nat.le_of_ble_eq_true rfl) rfl ?_
  refine gq_aload_n (pc := 0) dX11_ofWearer_0 rfl ?_
  refine gq_iload_n (pc := 1) dX11_ofWearer_1 rfl ?_
  refine gq_rV1i (pc := 2) dX11_ofWearer_2 cv_X11_157 sh_0 (c_noWearer _) ⟨by decide, by decide⟩ rfl rfl (Nat.le_of_ble_eq_true rfl) ?_
  refine gq_if_ne (pc := 5) 17 dX11_ofWearer_5 (by decide) (fun h_5 => ?_) (fun h_5 => ?_)
  · exact absurd (p_nt_0.mpr (p_in_E hw hi (by omega) e3)) h_5
  · refine gq_iload_n (pc := 8) dX11_ofWearer_8 rfl ?_
    refine gq_iconst (pc := 9) dX11_ofWearer_9 kc_0 ?_
    refine gq_iconst (pc := 10) dX11_ofWearer_10 kc_4 ?_
    refine gq_rS3i (pc := 11) dX11_ofWearer_11 cs_X11_105 (c_outside _ _ _) ⟨by decide, by decide⟩ (Nat.le_of_ble_eq_true rfl) ?_
    refine gq_if_eq (pc := 14) 23 dX11_ofWearer_14 (by decide) (fun h_14 => ?_) (fun h_14 => ?_)
    · refine gq_iload_n (pc := 23) dX11_ofWearer_23 rfl ?_
      refine gq_iconst (pc := 24) dX11_ofWearer_24 kc_4 ?_
      refine gq_ic_ne (pc := 25) 39 dX11_ofWearer_25 (by decide) (fun h_25 => ?_) (fun h_25 => ?_)
      · refine gq_aload_n (pc := 39) dX11_ofWearer_39 rfl ?_
        refine gq_getr (pc := 40) dX11_ofWearer_40 fl_X11_60_11 sh_0 rfl ?_
        refine gq_iload_n (pc := 43) dX11_ofWearer_43 rfl ?_
        refine gq_iload_n (pc := 44) dX11_ofWearer_44 rfl ?_
        refine gq_rV2i (pc := 45) dX11_ofWearer_45 cv_X11_163 sh_25 (k_has_25 hw (by omega) kl_0 (by omega)) ⟨by decide, by decide⟩ rfl rfl (Nat.le_of_ble_eq_true rfl) ?_
        exact gq_iret (pc := 48) rfl dX11_ofWearer_48 ⟨rfl, rfl⟩
      · exact absurd h_25 (by decide)
    · exact absurd (show p_nt (p_in 0 0 4) = 0 by decide) h_14
set_option maxHeartbeats 400000 in
theorem c_ofWearer_ok1 {w : Int32} {i V : Nat} (hI : p_inv c r) (hL : c_lw g r) (hw : w = nI i) (hi : i < V) (hV : V ≤ 6) (e3 : r 3 = nI V) : ge_N X ge_SH YX11_ofWearer 4 [.ref (ge_ad X.1 0), .int w, .int 1] (ge_k g 25 r x hb) (some (.int (p_o r i 1))) (ge_k g 25 r x hb) := by
  refine gq_ofB (l := [(0, .ref (ge_ad X.1 0)), (1, .int w), (2, .int 1)]) (by decide) (Nat.le_of_ble_eq_true rfl) rfl ?_
  refine gq_aload_n (pc := 0) dX11_ofWearer_0 rfl ?_
  refine gq_iload_n (pc := 1) dX11_ofWearer_1 rfl ?_
  refine gq_rV1i (pc := 2) dX11_ofWearer_2 cv_X11_157 sh_0 (c_noWearer _) ⟨by decide, by decide⟩ rfl rfl (Nat.le_of_ble_eq_true rfl) ?_
  refine gq_if_ne (pc := 5) 17 dX11_ofWearer_5 (by decide) (fun h_5 => ?_) (fun h_5 => ?_)
  · exact absurd (p_nt_0.mpr (p_in_E hw hi (by omega) e3)) h_5
  · refine gq_iload_n (pc := 8) dX11_ofWearer_8 rfl ?_
    refine gq_iconst (pc := 9) dX11_ofWearer_9 kc_0 ?_
    refine gq_iconst (pc := 10) dX11_ofWearer_10 kc_4 ?_
    refine gq_rS3i (pc := 11) dX11_ofWearer_11 cs_X11_105 (c_outside _ _ _) ⟨by decide, by decide⟩ (Nat.le_of_ble_eq_true rfl) ?_
    refine gq_if_eq (pc := 14) 23 dX11_ofWearer_14 (by decide) (fun h_14 => ?_) (fun h_14 => ?_)
    · refine gq_iload_n (pc := 23) dX11_ofWearer_23 rfl ?_
      refine gq_iconst (pc := 24) dX11_ofWearer_24 kc_4 ?_
      refine gq_ic_ne (pc := 25) 39 dX11_ofWearer_25 (by decide) (fun h_25 => ?_) (fun h_25 => ?_)
      · refine gq_aload_n (pc := 39) dX11_ofWearer_39 rfl ?_
        refine gq_getr (pc := 40) dX11_ofWearer_40 fl_X11_60_11 sh_0 rfl ?_
        refine gq_iload_n (pc := 43) dX11_ofWearer_43 rfl ?_
        refine gq_iload_n (pc := 44) dX11_ofWearer_44 rfl ?_
        refine gq_rV2i (pc := 45) dX11_ofWearer_45 cv_X11_163 sh_25 (k_has_25 hw (by omega) kl_1 (by omega)) ⟨by decide, by decide⟩ rfl rfl (Nat.le_of_ble_eq_true rfl) ?_
        exact gq_iret (pc := 48) rfl dX11_ofWearer_48 ⟨rfl, rfl⟩
      · exact absurd h_25 (by decide)
    · exact absurd (show p_nt (p_in 1 0 4) = 0 by decide) h_14
set_option maxHeartbeats 400000 in
theorem c_ofWearer_ok2 {w : Int32} {i V : Nat} (hI : p_inv c r) (hL : c_lw g r) (hw : w = nI i) (hi : i < V) (hV : V ≤ 6) (e3 : r 3 = nI V) : ge_N X ge_SH YX11_ofWearer 4 [.ref (ge_ad X.1 0), .int w, .int 2] (ge_k g 25 r x hb) (some (.int (p_o r i 2))) (ge_k g 25 r x hb) := by
  refine gq_ofB (l := [(0, .ref (ge_ad X.1 0)), (1, .int w), (2, .int 2)]) (by decide) (Nat.le_of_ble_eq_true rfl) rfl ?_
  refine gq_aload_n (pc := 0) dX11_ofWearer_0 rfl ?_
  refine gq_iload_n (pc := 1) dX11_ofWearer_1 rfl ?_
  refine gq_rV1i (pc := 2) dX11_ofWearer_2 cv_X11_157 sh_0 (c_noWearer _) ⟨by decide, by decide⟩ rfl rfl (Nat.le_of_ble_eq_true rfl) ?_
  refine gq_if_ne (pc := 5) 17 dX11_ofWearer_5 (by decide) (fun h_5 => ?_) (fun h_5 => ?_)
  · exact absurd (p_nt_0.mpr (p_in_E hw hi (by omega) e3)) h_5
  · refine gq_iload_n (pc := 8) dX11_ofWearer_8 rfl ?_
    refine gq_iconst (pc := 9) dX11_ofWearer_9 kc_0 ?_
    refine gq_iconst (pc := 10) dX11_ofWearer_10 kc_4 ?_
    refine gq_rS3i (pc := 11) dX11_ofWearer_11 cs_X11_105 (c_outside _ _ _) ⟨by decide, by decide⟩ (Nat.le_of_ble_eq_true rfl) ?_
    refine gq_if_eq (pc := 14) 23 dX11_ofWearer_14 (by decide) (fun h_14 => ?_) (fun h_14 => ?_)
    · refine gq_iload_n (pc := 23) dX11_ofWearer_23 rfl ?_
      refine gq_iconst (pc := 24) dX11_ofWearer_24 kc_4 ?_
      refine gq_ic_ne (pc := 25) 39 dX11_ofWearer_25 (by decide) (fun h_25 => ?_) (fun h_25 => ?_)
      · refine gq_aload_n (pc := 39) dX11_ofWearer_39 rfl ?_
        refine gq_getr (pc := 40) dX11_ofWearer_40 fl_X11_60_11 sh_0 rfl ?_
        refine gq_iload_n (pc := 43) dX11_ofWearer_43 rfl ?_
        refine gq_iload_n (pc := 44) dX11_ofWearer_44 rfl ?_
        refine gq_rV2i (pc := 45) dX11_ofWearer_45 cv_X11_163 sh_25 (k_has_25 hw (by omega) kl_2 (by omega)) ⟨by decide, by decide⟩ rfl rfl (Nat.le_of_ble_eq_true rfl) ?_
        exact gq_iret (pc := 48) rfl dX11_ofWearer_48 ⟨rfl, rfl⟩
      · exact absurd h_25 (by decide)
    · exact absurd (show p_nt (p_in 2 0 4) = 0 by decide) h_14
set_option maxHeartbeats 400000 in
theorem c_ofWearer_ok3 {w : Int32} {i V : Nat} (hI : p_inv c r) (hL : c_lw g r) (hw : w = nI i) (hi : i < V) (hV : V ≤ 6) (e3 : r 3 = nI V) : ge_N X ge_SH YX11_ofWearer 4 [.ref (ge_ad X.1 0), .int w, .int 3] (ge_k g 25 r x hb) (some (.int (p_o r i 3))) (ge_k g 25 r x hb) := by
  refine gq_ofB (l := [(0, .ref (ge_ad X.1 0)), (1, .int w), (2, .int 3)]) (by decide) (Nat.le_of_ble_eq_true rfl) rfl ?_
  refine gq_aload_n (pc := 0) dX11_ofWearer_0 rfl ?_
  refine gq_iload_n (pc := 1) dX11_ofWearer_1 rfl ?_
  refine gq_rV1i (pc := 2) dX11_ofWearer_2 cv_X11_157 sh_0 (c_noWearer _) ⟨by decide, by decide⟩ rfl rfl (Nat.le_of_ble_eq_true rfl) ?_
  refine gq_if_ne (pc := 5) 17 dX11_ofWearer_5 (by decide) (fun h_5 => ?_) (fun h_5 => ?_)
  · exact absurd (p_nt_0.mpr (p_in_E hw hi (by omega) e3)) h_5
  · refine gq_iload_n (pc := 8) dX11_ofWearer_8 rfl ?_
    refine gq_iconst (pc := 9) dX11_ofWearer_9 kc_0 ?_
    refine gq_iconst (pc := 10) dX11_ofWearer_10 kc_4 ?_
    refine gq_rS3i (pc := 11) dX11_ofWearer_11 cs_X11_105 (c_outside _ _ _) ⟨by decide, by decide⟩ (Nat.le_of_ble_eq_true rfl) ?_
    refine gq_if_eq (pc := 14) 23 dX11_ofWearer_14 (by decide) (fun h_14 => ?_) (fun h_14 => ?_)
    · refine gq_iload_n (pc := 23) dX11_ofWearer_23 rfl ?_
      refine gq_iconst (pc := 24) dX11_ofWearer_24 kc_4 ?_
      refine gq_ic_ne (pc := 25) 39 dX11_ofWearer_25 (by decide) (fun h_25 => ?_) (fun h_25 => ?_)
      · refine gq_aload_n (pc := 39) dX11_ofWearer_39 rfl ?_
        refine gq_getr (pc := 40) dX11_ofWearer_40 fl_X11_60_11 sh_0 rfl ?_
        refine gq_iload_n (pc := 43) dX11_ofWearer_43 rfl ?_
        refine gq_iload_n (pc := 44) dX11_ofWearer_44 rfl ?_
        refine gq_rV2i (pc := 45) dX11_ofWearer_45 cv_X11_163 sh_25 (k_has_25 hw (by omega) kl_3 (by omega)) ⟨by decide, by decide⟩ rfl rfl (Nat.le_of_ble_eq_true rfl) ?_
        exact gq_iret (pc := 48) rfl dX11_ofWearer_48 ⟨rfl, rfl⟩
      · exact absurd h_25 (by decide)
    · exact absurd (show p_nt (p_in 3 0 4) = 0 by decide) h_14
set_option maxHeartbeats 400000 in
theorem c_ofWearer_ok4 {w : Int32} {i V : Nat} (hI : p_inv c r) (hL : c_lw g r) (hw : w = nI i) (hi : i < V) (hV : V ≤ 6) (e3 : r 3 = nI V) : ge_N X ge_SH YX11_ofWearer 4 [.ref (ge_ad X.1 0), .int w, .int 4] (ge_k g 25 r x hb) (some (.int (p_heeded r i))) (ge_k g 25 r x hb) := by
  refine gq_ofB (l := [(0, .ref (ge_ad X.1 0)), (1, .int w), (2, .int 4)]) (by decide) (Nat.le_of_ble_eq_true rfl) rfl ?_
  refine gq_aload_n (pc := 0) dX11_ofWearer_0 rfl ?_
  refine gq_iload_n (pc := 1) dX11_ofWearer_1 rfl ?_
  refine gq_rV1i (pc := 2) dX11_ofWearer_2 cv_X11_157 sh_0 (c_noWearer _) ⟨by decide, by decide⟩ rfl rfl (Nat.le_of_ble_eq_true rfl) ?_
  refine gq_if_ne (pc := 5) 17 dX11_ofWearer_5 (by decide) (fun h_5 => ?_) (fun h_5 => ?_)
  · exact absurd (p_nt_0.mpr (p_in_E hw hi (by omega) e3)) h_5
  · refine gq_iload_n (pc := 8) dX11_ofWearer_8 rfl ?_
    refine gq_iconst (pc := 9) dX11_ofWearer_9 kc_0 ?_
    refine gq_iconst (pc := 10) dX11_ofWearer_10 kc_4 ?_
    refine gq_rS3i (pc := 11) dX11_ofWearer_11 cs_X11_105 (c_outside _ _ _) ⟨by decide, by decide⟩ (Nat.le_of_ble_eq_true rfl) ?_
    refine gq_if_eq (pc := 14) 23 dX11_ofWearer_14 (by decide) (fun h_14 => ?_) (fun h_14 => ?_)
    · refine gq_iload_n (pc := 23) dX11_ofWearer_23 rfl ?_
      refine gq_iconst (pc := 24) dX11_ofWearer_24 kc_4 ?_
      refine gq_ic_ne (pc := 25) 39 dX11_ofWearer_25 (by decide) (fun h_25 => ?_) (fun h_25 => ?_)
      · exact absurd h_25 (by decide)
      · refine gq_aload_n (pc := 28) dX11_ofWearer_28 rfl ?_
        refine gq_getr (pc := 29) dX11_ofWearer_29 fl_X11_60_11 sh_0 rfl ?_
        refine gq_iload_n (pc := 32) dX11_ofWearer_32 rfl ?_
        refine gq_rV1i (pc := 33) dX11_ofWearer_33 cv_X11_160 sh_25 (k_heed_25 hI hL hw (by omega) (p_inv_e1 hI e3 hV hi (by omega)) (p_inv_e1 hI e3 hV hi (by omega))) ⟨by decide, by decide⟩ rfl rfl (Nat.le_of_ble_eq_true rfl) ?_
        refine gq_goto (pc := 36) 48 dX11_ofWearer_36 (by decide) ?_
        exact gq_iret (pc := 48) rfl dX11_ofWearer_48 ⟨rfl, rfl⟩
    · exact absurd (show p_nt (p_in 4 0 4) = 0 by decide) h_14
set_option maxHeartbeats 400000 in
theorem c_ofWearer_er {w k : Int32} (h : p_in w 0 (r 3 - 1) = 0 ∨ p_in k 0 4 = 0) : ge_N X ge_SH YX11_ofWearer 4 [.ref (ge_ad X.1 0), .int w, .int k] (ge_k g 25 r x hb) (some (.int (-1000000000 - 1))) (ge_k (ge_up g 75 1 (g 75 1 + 1)) 25 r x hb) := by
  refine gq_ofB (l := [(0, .ref (ge_ad X.1 0)), (1, .int w), (2, .int k)]) (by decide) (Nat.le_of_ble_eq_true rfl) rfl ?_
  refine gq_aload_n (pc := 0) dX11_ofWearer_0 rfl ?_
  refine gq_iload_n (pc := 1) dX11_ofWearer_1 rfl ?_
  refine gq_rV1i (pc := 2) dX11_ofWearer_2 cv_X11_157 sh_0 (c_noWearer _) ⟨by decide, by decide⟩ rfl rfl (Nat.le_of_ble_eq_true rfl) ?_
  refine gq_if_ne (pc := 5) 17 dX11_ofWearer_5 (by decide) (fun h_5 => ?_) (fun h_5 => ?_)
  · refine gq_aload_n (pc := 17) dX11_ofWearer_17 rfl ?_
    refine gq_iconst (pc := 18) dX11_ofWearer_18 kc_1 ?_
    refine gq_rV1i (pc := 19) dX11_ofWearer_19 cv_X11_109 sh_0 (c_error kl_1 (by decide)) ⟨by decide, by decide⟩ rfl rfl (Nat.le_of_ble_eq_true rfl) ?_
    exact gq_iret (pc := 22) rfl dX11_ofWearer_22 ⟨rfl, rfl⟩
  · refine gq_iload_n (pc := 8) dX11_ofWearer_8 rfl ?_
    refine gq_iconst (pc := 9) dX11_ofWearer_9 kc_0 ?_
    refine gq_iconst (pc := 10) dX11_ofWearer_10 kc_4 ?_
    refine gq_rS3i (pc := 11) dX11_ofWearer_11 cs_X11_105 (c_outside _ _ _) ⟨by decide, by decide⟩ (Nat.le_of_ble_eq_true rfl) ?_
    refine gq_if_eq (pc := 14) 23 dX11_ofWearer_14 (by decide) (fun h_14 => ?_) (fun h_14 => ?_)
    · exact (h.elim (p_nt_0.mp h_5) (p_nt_0.mp h_14)).elim
    · refine gq_aload_n (pc := 17) dX11_ofWearer_17 rfl ?_
      refine gq_iconst (pc := 18) dX11_ofWearer_18 kc_1 ?_
      refine gq_rV1i (pc := 19) dX11_ofWearer_19 cv_X11_109 sh_0 (c_error kl_1 (by decide)) ⟨by decide, by decide⟩ rfl rfl (Nat.le_of_ble_eq_true rfl) ?_
      exact gq_iret (pc := 22) rfl dX11_ofWearer_22 ⟨rfl, rfl⟩
set_option maxHeartbeats 400000 in
theorem c_wear_ok {w s e : Int32} {i k V E : Nat} (hw : w = nI i) (hi : i < V) (hV : V ≤ 6) (e3 : r 3 = nI V) (hs : s = nI k) (hk : k ≤ 1) (he : e = -1 ∨ ∃ j, j < E ∧ e = nI j) (hE : E ≤ 8) (e2 : r 2 = nI E) : ge_N X ge_SH YX11_wear 3 [.ref (ge_ad X.1 0), .int w, .int s, .int e] (ge_k g 25 r x hb) (some (.int (p_o r i k))) (ge_k g 25 (p_uo (p_tf r e V) i k e) x hb) := by
  refine gq_ofB (l := [(0, .ref (ge_ad X.1 0)), (1, .int w), (2, .int s), (3, .int e)]) (by decide) (Nat.le_of_ble_eq_true rfl) rfl ?_
  refine gq_aload_n (pc := 0) dX11_wear_0 rfl ?_
  refine gq_iload_n (pc := 1) dX11_wear_1 rfl ?_
  refine gq_rV1i (pc := 2) dX11_wear_2 cv_X11_157 sh_0 (c_noWearer _) ⟨by decide, by decide⟩ rfl rfl (Nat.le_of_ble_eq_true rfl) ?_
  refine gq_if_ne (pc := 5) 28 dX11_wear_5 (by decide) (fun h_5 => ?_) (fun h_5 => ?_)
  · exact absurd (p_nt_0.mpr (p_in_E hw hi (by omega) e3)) h_5
  · refine gq_iload_n (pc := 8) dX11_wear_8 rfl ?_
    refine gq_rS1i (pc := 9) dX11_wear_9 cs_X11_173 (c_noSide _) ⟨by decide, by decide⟩ (Nat.le_of_ble_eq_true rfl) ?_
    refine gq_if_ne (pc := 12) 28 dX11_wear_12 (by decide) (fun h_12 => ?_) (fun h_12 => ?_)
    · exact absurd (p_nt_0.mpr (p_in_le (N := 1) hs hk (by decide))) h_12
    · refine gq_iload_n (pc := 15) dX11_wear_15 rfl ?_
      refine gq_iconst (pc := 16) dX11_wear_16 kc_m1 ?_
      refine gq_ic_eq (pc := 17) 34 dX11_wear_17 (by decide) (fun h_17 => ?_) (fun h_17 => ?_)
      · refine gq_aload_n (pc := 34) dX11_wear_34 rfl ?_
        refine gq_getr (pc := 35) dX11_wear_35 fl_X11_60_11 sh_0 rfl ?_
        refine gq_iload_n (pc := 38) dX11_wear_38 rfl ?_
        refine gq_iload_n (pc := 39) dX11_wear_39 rfl ?_
        refine gq_iload_n (pc := 40) dX11_wear_40 rfl ?_
        refine gq_rV3i (pc := 41) dX11_wear_41 cv_X11_176 sh_25 (k_fit_25 hV e3 hw (by omega) hs (by omega)) ⟨by decide, by decide⟩ rfl rfl (Nat.le_of_ble_eq_true rfl) ?_
        exact gq_iret (pc := 44) rfl dX11_wear_44 ⟨rfl, rfl⟩
      · refine gq_aload_n (pc := 20) dX11_wear_20 rfl ?_
        refine gq_iload_n (pc := 21) dX11_wear_21 rfl ?_
        refine gq_rV1i (pc := 22) dX11_wear_22 cv_X11_126 sh_0 (c_noEye _) ⟨by decide, by decide⟩ rfl rfl (Nat.le_of_ble_eq_true rfl) ?_
        refine gq_if_eq (pc := 25) 34 dX11_wear_25 (by decide) (fun h_25 => ?_) (fun h_25 => ?_)
        · refine gq_aload_n (pc := 34) dX11_wear_34 rfl ?_
          refine gq_getr (pc := 35) dX11_wear_35 fl_X11_60_11 sh_0 rfl ?_
          refine gq_iload_n (pc := 38) dX11_wear_38 rfl ?_
          refine gq_iload_n (pc := 39) dX11_wear_39 rfl ?_
          refine gq_iload_n (pc := 40) dX11_wear_40 rfl ?_
          refine gq_rV3i (pc := 41) dX11_wear_41 cv_X11_176 sh_25 (k_fit_25 hV e3 hw (by omega) hs (by omega)) ⟨by decide, by decide⟩ rfl rfl (Nat.le_of_ble_eq_true rfl) ?_
          exact gq_iret (pc := 44) rfl dX11_wear_44 ⟨rfl, rfl⟩
        · exact absurd (p_nt_0.mpr (by obtain ⟨j, hj, ej⟩ := he.resolve_left h_17; exact p_in_E ej hj (by omega) e2)) h_25
set_option maxHeartbeats 400000 in
theorem c_wear_er {w s e : Int32} (h : p_in w 0 (r 3 - 1) = 0 ∨ p_in s 0 1 = 0 ∨ (¬ e = -1 ∧ p_in e 0 (r 2 - 1) = 0)) : ge_N X ge_SH YX11_wear 3 [.ref (ge_ad X.1 0), .int w, .int s, .int e] (ge_k g 25 r x hb) (some (.int (-1000000000 - 1))) (ge_k (ge_up g 75 1 (g 75 1 + 1)) 25 r x hb) := by
  refine gq_ofB (l := [(0, .ref (ge_ad X.1 0)), (1, .int w), (2, .int s), (3, .int e)]) (by decide) (Nat.le_of_ble_eq_true rfl) rfl ?_
  refine gq_aload_n (pc := 0) dX11_wear_0 rfl ?_
  refine gq_iload_n (pc := 1) dX11_wear_1 rfl ?_
  refine gq_rV1i (pc := 2) dX11_wear_2 cv_X11_157 sh_0 (c_noWearer _) ⟨by decide, by decide⟩ rfl rfl (Nat.le_of_ble_eq_true rfl) ?_
  refine gq_if_ne (pc := 5) 28 dX11_wear_5 (by decide) (fun h_5 => ?_) (fun h_5 => ?_)
  · refine gq_aload_n (pc := 28) dX11_wear_28 rfl ?_
    refine gq_iconst (pc := 29) dX11_wear_29 kc_1 ?_
    refine gq_rV1i (pc := 30) dX11_wear_30 cv_X11_109 sh_0 (c_error kl_1 (by decide)) ⟨by decide, by decide⟩ rfl rfl (Nat.le_of_ble_eq_true rfl) ?_
    exact gq_iret (pc := 33) rfl dX11_wear_33 ⟨rfl, rfl⟩
  · refine gq_iload_n (pc := 8) dX11_wear_8 rfl ?_
    refine gq_rS1i (pc := 9) dX11_wear_9 cs_X11_173 (c_noSide _) ⟨by decide, by decide⟩ (Nat.le_of_ble_eq_true rfl) ?_
    refine gq_if_ne (pc := 12) 28 dX11_wear_12 (by decide) (fun h_12 => ?_) (fun h_12 => ?_)
    · refine gq_aload_n (pc := 28) dX11_wear_28 rfl ?_
      refine gq_iconst (pc := 29) dX11_wear_29 kc_1 ?_
      refine gq_rV1i (pc := 30) dX11_wear_30 cv_X11_109 sh_0 (c_error kl_1 (by decide)) ⟨by decide, by decide⟩ rfl rfl (Nat.le_of_ble_eq_true rfl) ?_
      exact gq_iret (pc := 33) rfl dX11_wear_33 ⟨rfl, rfl⟩
    · refine gq_iload_n (pc := 15) dX11_wear_15 rfl ?_
      refine gq_iconst (pc := 16) dX11_wear_16 kc_m1 ?_
      refine gq_ic_eq (pc := 17) 34 dX11_wear_17 (by decide) (fun h_17 => ?_) (fun h_17 => ?_)
      · exact (h.elim (p_nt_0.mp h_5) (fun q => q.elim (p_nt_0.mp h_12) (fun q => q.1 h_17))).elim
      · refine gq_aload_n (pc := 20) dX11_wear_20 rfl ?_
        refine gq_iload_n (pc := 21) dX11_wear_21 rfl ?_
        refine gq_rV1i (pc := 22) dX11_wear_22 cv_X11_126 sh_0 (c_noEye _) ⟨by decide, by decide⟩ rfl rfl (Nat.le_of_ble_eq_true rfl) ?_
        refine gq_if_eq (pc := 25) 34 dX11_wear_25 (by decide) (fun h_25 => ?_) (fun h_25 => ?_)
        · exact (h.elim (p_nt_0.mp h_5) (fun q => q.elim (p_nt_0.mp h_12) (fun q => (p_nt_0.mp h_25) q.2))).elim
        · refine gq_aload_n (pc := 28) dX11_wear_28 rfl ?_
          refine gq_iconst (pc := 29) dX11_wear_29 kc_1 ?_
          refine gq_rV1i (pc := 30) dX11_wear_30 cv_X11_109 sh_0 (c_error kl_1 (by decide)) ⟨by decide, by decide⟩ rfl rfl (Nat.le_of_ble_eq_true rfl) ?_
          exact gq_iret (pc := 33) rfl dX11_wear_33 ⟨rfl, rfl⟩
set_option maxHeartbeats 400000 in
theorem c_become_ok {e k : Int32} {j a E : Nat} (he : e = nI j) (hj : j < E) (hE : E ≤ 8) (e2 : r 2 = nI E) (ha : k = nI a) (ha2 : a ≤ 69) : ge_N X ge_SH YX11_become 2 [.ref (ge_ad X.1 0), .int e, .int k] (ge_k g 25 r x hb) (some (.int (p_e r j 0))) (ge_k g 25 (p_ue (p_ue r j 0 (k / 10)) j 1 (p_rem k 10)) x hb) := by
  refine gq_ofB (l := [(0, .ref (ge_ad X.1 0)), (1, .int e), (2, .int k)]) (by decide) (Nat.le_of_ble_eq_true rfl) rfl ?_
  refine gq_aload_n (pc := 0) dX11_become_0 rfl ?_
  refine gq_iload_n (pc := 1) dX11_become_1 rfl ?_
  refine gq_rV1i (pc := 2) dX11_become_2 cv_X11_126 sh_0 (c_noEye _) ⟨by decide, by decide⟩ rfl rfl (Nat.le_of_ble_eq_true rfl) ?_
  refine gq_if_ne (pc := 5) 15 dX11_become_5 (by decide) (fun h_5 => ?_) (fun h_5 => ?_)
  · exact absurd (p_nt_0.mpr (p_in_E he hj (by omega) e2)) h_5
  · refine gq_iload_n (pc := 8) dX11_become_8 rfl ?_
    refine gq_rS1i (pc := 9) dX11_become_9 cs_X11_116 (c_noKindAndNumber _) ⟨by decide, by decide⟩ (Nat.le_of_ble_eq_true rfl) ?_
    refine gq_if_eq (pc := 12) 21 dX11_become_12 (by decide) (fun h_12 => ?_) (fun h_12 => ?_)
    · refine gq_aload_n (pc := 21) dX11_become_21 rfl ?_
      refine gq_getr (pc := 22) dX11_become_22 fl_X11_60_11 sh_0 rfl ?_
      refine gq_getr (pc := 25) dX11_become_25 fl_X11_129_10 sh_25 rfl ?_
      refine gq_iload_n (pc := 28) dX11_become_28 rfl ?_
      refine kq_ald2 (pw := 25) (pc := 29) (by decide) dX11_become_29 he (by first | decide | omega) ?_
      refine gq_istore_n (pc := 30) (l' := [(3, _), (0, _), (1, _), (2, _)]) dX11_become_30 (by decide) rfl ?_
      refine gq_aload_n (pc := 31) dX11_become_31 rfl ?_
      refine gq_getr (pc := 32) dX11_become_32 fl_X11_60_11 sh_0 rfl ?_
      refine gq_getr (pc := 35) dX11_become_35 fl_X11_129_10 sh_25 rfl ?_
      refine gq_iload_n (pc := 38) dX11_become_38 rfl ?_
      refine gq_iload_n (pc := 39) dX11_become_39 rfl ?_
      refine gq_bipush (pc := 40) dX11_become_40 kb_10 ?_
      refine gq_idiv (pc := 42) dX11_become_42 (by decide) ?_
      refine kq_ast2 (pw := 25) (pc := 43) (by decide) dX11_become_43 he (by first | decide | omega) ?_
      refine gq_aload_n (pc := 44) dX11_become_44 rfl ?_
      refine gq_getr (pc := 45) dX11_become_45 fl_X11_60_11 sh_0 rfl ?_
      refine gq_getr (pc := 48) dX11_become_48 fl_X11_132_10 sh_25 rfl ?_
      refine gq_iload_n (pc := 51) dX11_become_51 rfl ?_
      refine gq_iload_n (pc := 52) dX11_become_52 rfl ?_
      refine gq_bipush (pc := 53) dX11_become_53 kb_10 ?_
      refine gq_irem (pc := 55) dX11_become_55 (by decide) (rfl : _ = p_rem _ _) ?_
      refine kq_ast3 (pw := 25) (pc := 56) (by decide) dX11_become_56 he (by first | decide | omega) ?_
      refine gq_iload_n (pc := 57) dX11_become_57 rfl ?_
      exact gq_iret (pc := 58) rfl dX11_become_58 ⟨rfl, rfl⟩
    · exact absurd (p_nt_0.mpr (p_in_le (N := 69) ha ha2 (by decide))) h_12
set_option maxHeartbeats 400000 in
theorem c_become_er {e k : Int32} (h : p_in e 0 (r 2 - 1) = 0 ∨ p_in k 0 69 = 0) : ge_N X ge_SH YX11_become 2 [.ref (ge_ad X.1 0), .int e, .int k] (ge_k g 25 r x hb) (some (.int (-1000000000 - 1))) (ge_k (ge_up g 75 1 (g 75 1 + 1)) 25 r x hb) := by
  refine gq_ofB (l := [(0, .ref (ge_ad X.1 0)), (1, .int e), (2, .int k)]) (by decide) (Nat.le_of_ble_eq_true rfl) rfl ?_
  refine gq_aload_n (pc := 0) dX11_become_0 rfl ?_
  refine gq_iload_n (pc := 1) dX11_become_1 rfl ?_
  refine gq_rV1i (pc := 2) dX11_become_2 cv_X11_126 sh_0 (c_noEye _) ⟨by decide, by decide⟩ rfl rfl (Nat.le_of_ble_eq_true rfl) ?_
  refine gq_if_ne (pc := 5) 15 dX11_become_5 (by decide) (fun h_5 => ?_) (fun h_5 => ?_)
  · refine gq_aload_n (pc := 15) dX11_become_15 rfl ?_
    refine gq_iconst (pc := 16) dX11_become_16 kc_1 ?_
    refine gq_rV1i (pc := 17) dX11_become_17 cv_X11_109 sh_0 (c_error kl_1 (by decide)) ⟨by decide, by decide⟩ rfl rfl (Nat.le_of_ble_eq_true rfl) ?_
    exact gq_iret (pc := 20) rfl dX11_become_20 ⟨rfl, rfl⟩
  · refine gq_iload_n (pc := 8) dX11_become_8 rfl ?_
    refine gq_rS1i (pc := 9) dX11_become_9 cs_X11_116 (c_noKindAndNumber _) ⟨by decide, by decide⟩ (Nat.le_of_ble_eq_true rfl) ?_
    refine gq_if_eq (pc := 12) 21 dX11_become_12 (by decide) (fun h_12 => ?_) (fun h_12 => ?_)
    · exact (h.elim (p_nt_0.mp h_5) (p_nt_0.mp h_12)).elim
    · refine gq_aload_n (pc := 15) dX11_become_15 rfl ?_
      refine gq_iconst (pc := 16) dX11_become_16 kc_1 ?_
      refine gq_rV1i (pc := 17) dX11_become_17 cv_X11_109 sh_0 (c_error kl_1 (by decide)) ⟨by decide, by decide⟩ rfl rfl (Nat.le_of_ble_eq_true rfl) ?_
      exact gq_iret (pc := 20) rfl dX11_become_20 ⟨rfl, rfl⟩
set_option maxHeartbeats 400000 in
theorem c_law_ok0 {A B D : Int32} (hL : c_lw g r) : ge_N X ge_SH YX11_law 2 [.ref (ge_ad X.1 0), .int 0, .int A, .int B, .int D] (ge_k g 25 r x hb) (some (.int (p_law r 0 A B D))) (ge_k g 25 r x hb) := by
  refine gq_ofB (l := [(0, .ref (ge_ad X.1 0)), (1, .int 0), (2, .int A), (3, .int B), (4, .int D)]) (by decide) (Nat.le_of_ble_eq_true rfl) rfl ?_
  refine gq_iload_n (pc := 0) dX11_law_0 rfl ?_
  refine gq_rS1i (pc := 1) dX11_law_1 cs_X11_188 (c_noUse _) ⟨by decide, by decide⟩ (Nat.le_of_ble_eq_true rfl) ?_
  refine gq_if_eq (pc := 4) 13 dX11_law_4 (by decide) (fun h_4 => ?_) (fun h_4 => ?_)
  · refine gq_aload_n (pc := 13) dX11_law_13 rfl ?_
    refine gq_getr (pc := 14) dX11_law_14 fl_X11_48_11 sh_0 rfl ?_
    refine gq_iload_n (pc := 17) dX11_law_17 rfl ?_
    refine gq_iload_n (pc := 18) dX11_law_18 rfl ?_
    refine gq_iload_n (pc := 19) dX11_law_19 rfl ?_
    refine gq_iload (pc := 20) dX11_law_20 rfl ?_
    refine gq_rV4i (pc := 22) dX11_law_22 cv_X11_204 sh_11 (kw_worth0_25 hL) ⟨by decide, by decide⟩ rfl rfl (Nat.le_of_ble_eq_true rfl) ?_
    exact gq_iret (pc := 25) rfl dX11_law_25 ⟨rfl, rfl⟩
  · exact absurd (show p_nt (p_in 0 0 1) = 0 by decide) h_4
set_option maxHeartbeats 400000 in
theorem c_law_ok1 {A B D : Int32} (hL : c_lw g r) : ge_N X ge_SH YX11_law 2 [.ref (ge_ad X.1 0), .int 1, .int A, .int B, .int D] (ge_k g 25 r x hb) (some (.int (p_law r 1 A B D))) (ge_k g 25 r x hb) := by
  refine gq_ofB (l := [(0, .ref (ge_ad X.1 0)), (1, .int 1), (2, .int A), (3, .int B), (4, .int D)]) (by decide) (Nat.le_of_ble_eq_true rfl) rfl ?_
  refine gq_iload_n (pc := 0) dX11_law_0 rfl ?_
  refine gq_rS1i (pc := 1) dX11_law_1 cs_X11_188 (c_noUse _) ⟨by decide, by decide⟩ (Nat.le_of_ble_eq_true rfl) ?_
  refine gq_if_eq (pc := 4) 13 dX11_law_4 (by decide) (fun h_4 => ?_) (fun h_4 => ?_)
  · refine gq_aload_n (pc := 13) dX11_law_13 rfl ?_
    refine gq_getr (pc := 14) dX11_law_14 fl_X11_48_11 sh_0 rfl ?_
    refine gq_iload_n (pc := 17) dX11_law_17 rfl ?_
    refine gq_iload_n (pc := 18) dX11_law_18 rfl ?_
    refine gq_iload_n (pc := 19) dX11_law_19 rfl ?_
    refine gq_iload (pc := 20) dX11_law_20 rfl ?_
    refine gq_rV4i (pc := 22) dX11_law_22 cv_X11_204 sh_11 (kw_worth1_25 hL) ⟨by decide, by decide⟩ rfl rfl (Nat.le_of_ble_eq_true rfl) ?_
    exact gq_iret (pc := 25) rfl dX11_law_25 ⟨rfl, rfl⟩
  · exact absurd (show p_nt (p_in 1 0 1) = 0 by decide) h_4
set_option maxHeartbeats 400000 in
theorem c_law_er {w A B D : Int32} (h : p_in w 0 1 = 0) : ge_N X ge_SH YX11_law 2 [.ref (ge_ad X.1 0), .int w, .int A, .int B, .int D] (ge_k g 25 r x hb) (some (.int (-1000000000 - 1))) (ge_k (ge_up g 75 1 (g 75 1 + 1)) 25 r x hb) := by
  refine gq_ofB (l := [(0, .ref (ge_ad X.1 0)), (1, .int w), (2, .int A), (3, .int B), (4, .int D)]) (by decide) (Nat.le_of_ble_eq_true rfl) rfl ?_
  refine gq_iload_n (pc := 0) dX11_law_0 rfl ?_
  refine gq_rS1i (pc := 1) dX11_law_1 cs_X11_188 (c_noUse _) ⟨by decide, by decide⟩ (Nat.le_of_ble_eq_true rfl) ?_
  refine gq_if_eq (pc := 4) 13 dX11_law_4 (by decide) (fun h_4 => ?_) (fun h_4 => ?_)
  · exact absurd h (p_nt_0.mp h_4)
  · refine gq_aload_n (pc := 7) dX11_law_7 rfl ?_
    refine gq_iconst (pc := 8) dX11_law_8 kc_1 ?_
    refine gq_rV1i (pc := 9) dX11_law_9 cv_X11_109 sh_0 (c_error kl_1 (by decide)) ⟨by decide, by decide⟩ rfl rfl (Nat.le_of_ble_eq_true rfl) ?_
    exact gq_iret (pc := 12) rfl dX11_law_12 ⟨rfl, rfl⟩
set_option maxHeartbeats 400000 in
theorem c_hours_ok {n : Int32} {N V : Nat} (hN : n = nI N) (h1 : 1 ≤ N) (h2 : N ≤ 60) (h : p_ok g (c + N) V r) (hx : x 18 = -1) (hh : r 0 + n ≤ 9999) : ge_N X ge_SH YX11_hours 6 [.ref (ge_ad X.1 0), .int n] (ge_k g 25 r x hb) (some (.int (p_xh (upd x 15 0) r V N 15))) (ge_k g 25 (p_hrs r N) (p_xh (upd x 15 0) r V N) (p_hh hb r V N)) := by
  refine gq_ofB (l := [(0, .ref (ge_ad X.1 0)), (1, .int n)]) (by decide) (Nat.le_of_ble_eq_true rfl) rfl ?_
  refine gq_iload_n (pc := 0) dX11_hours_0 rfl ?_
  refine gq_iconst (pc := 1) dX11_hours_1 kc_1 ?_
  refine gq_bipush (pc := 2) dX11_hours_2 kb_60 ?_
  refine gq_rS3i (pc := 4) dX11_hours_4 cs_X11_105 (c_outside _ _ _) ⟨by decide, by decide⟩ (Nat.le_of_ble_eq_true rfl) ?_
  refine gq_if_eq (pc := 7) 16 dX11_hours_7 (by decide) (fun h_7 => ?_) (fun h_7 => ?_)
  · refine gq_aload_n (pc := 16) dX11_hours_16 rfl ?_
    refine gq_getr (pc := 17) dX11_hours_17 fl_X11_60_11 sh_0 rfl ?_
    refine kq_get13 (pw := 25) (pc := 20) (by decide) dX11_hours_20 fl_X11_208_10 ?_
    refine gq_iload_n (pc := 23) dX11_hours_23 rfl ?_
    refine gq_iadd (pc := 24) dX11_hours_24 ?_
    refine gq_sipush (pc := 25) dX11_hours_25 kq_9999 ?_
    refine gq_ic_le (pc := 28) 37 dX11_hours_28 (by decide) (fun h_28 => ?_) (fun h_28 => ?_)
    · refine gq_aload_n (pc := 37) dX11_hours_37 rfl ?_
      refine gq_getr (pc := 38) dX11_hours_38 fl_X11_60_11 sh_0 rfl ?_
      refine gq_iconst (pc := 41) dX11_hours_41 kc_0 ?_
      refine kq_put15 (pw := 25) (pc := 42) (by decide) dX11_hours_42 fp_X11_211_10 ?_
      refine gq_aload_n (pc := 45) dX11_hours_45 rfl ?_
      refine gq_getr (pc := 46) dX11_hours_46 fl_X11_60_11 sh_0 rfl ?_
      refine gq_iload_n (pc := 49) dX11_hours_49 rfl ?_
      refine gq_rV1v (pc := 50) dX11_hours_50 cv_X11_214 sh_25 (k_hours_25 hN (by omega) h hx) ⟨by decide, by decide⟩ rfl rfl (Nat.le_of_ble_eq_true rfl) ?_
      refine gq_aload_n (pc := 53) dX11_hours_53 rfl ?_
      refine gq_getr (pc := 54) dX11_hours_54 fl_X11_60_11 sh_0 rfl ?_
      refine kq_get15 (pw := 25) (pc := 57) (by decide) dX11_hours_57 fl_X11_211_10 ?_
      exact gq_iret (pc := 60) rfl dX11_hours_60 ⟨rfl, rfl⟩
    · exact absurd hh h_28
  · exact absurd (p_nt_0.mpr (p_in_l1 (N := 60) hN h1 h2 (by decide))) h_7
set_option maxHeartbeats 400000 in
theorem c_hours_er {n : Int32} (h : p_in n 1 60 = 0) : ge_N X ge_SH YX11_hours 6 [.ref (ge_ad X.1 0), .int n] (ge_k g 25 r x hb) (some (.int (-1000000000 - 1))) (ge_k (ge_up g 75 1 (g 75 1 + 1)) 25 r x hb) := by
  refine gq_ofB (l := [(0, .ref (ge_ad X.1 0)), (1, .int n)]) (by decide) (Nat.le_of_ble_eq_true rfl) rfl ?_
  refine gq_iload_n (pc := 0) dX11_hours_0 rfl ?_
  refine gq_iconst (pc := 1) dX11_hours_1 kc_1 ?_
  refine gq_bipush (pc := 2) dX11_hours_2 kb_60 ?_
  refine gq_rS3i (pc := 4) dX11_hours_4 cs_X11_105 (c_outside _ _ _) ⟨by decide, by decide⟩ (Nat.le_of_ble_eq_true rfl) ?_
  refine gq_if_eq (pc := 7) 16 dX11_hours_7 (by decide) (fun h_7 => ?_) (fun h_7 => ?_)
  · exact absurd h (p_nt_0.mp h_7)
  · refine gq_aload_n (pc := 10) dX11_hours_10 rfl ?_
    refine gq_iconst (pc := 11) dX11_hours_11 kc_1 ?_
    refine gq_rV1i (pc := 12) dX11_hours_12 cv_X11_109 sh_0 (c_error kl_1 (by decide)) ⟨by decide, by decide⟩ rfl rfl (Nat.le_of_ble_eq_true rfl) ?_
    exact gq_iret (pc := 15) rfl dX11_hours_15 ⟨rfl, rfl⟩
set_option maxHeartbeats 400000 in
theorem c_hours_st {n : Int32} (h1 : ¬ p_in n 1 60 = 0) (hh : ¬ r 0 + n ≤ 9999) : ge_N X ge_SH YX11_hours 6 [.ref (ge_ad X.1 0), .int n] (ge_k g 25 r x hb) (some (.int (-1000000000 - 3))) (ge_k (ge_up g 75 3 (g 75 3 + 1)) 25 r x hb) := by
  refine gq_ofB (l := [(0, .ref (ge_ad X.1 0)), (1, .int n)]) (by decide) (Nat.le_of_ble_eq_true rfl) rfl ?_
  refine gq_iload_n (pc := 0) dX11_hours_0 rfl ?_
  refine gq_iconst (pc := 1) dX11_hours_1 kc_1 ?_
  refine gq_bipush (pc := 2) dX11_hours_2 kb_60 ?_
  refine gq_rS3i (pc := 4) dX11_hours_4 cs_X11_105 (c_outside _ _ _) ⟨by decide, by decide⟩ (Nat.le_of_ble_eq_true rfl) ?_
  refine gq_if_eq (pc := 7) 16 dX11_hours_7 (by decide) (fun h_7 => ?_) (fun h_7 => ?_)
  · refine gq_aload_n (pc := 16) dX11_hours_16 rfl ?_
    refine gq_getr (pc := 17) dX11_hours_17 fl_X11_60_11 sh_0 rfl ?_
    refine kq_get13 (pw := 25) (pc := 20) (by decide) dX11_hours_20 fl_X11_208_10 ?_
    refine gq_iload_n (pc := 23) dX11_hours_23 rfl ?_
    refine gq_iadd (pc := 24) dX11_hours_24 ?_
    refine gq_sipush (pc := 25) dX11_hours_25 kq_9999 ?_
    refine gq_ic_le (pc := 28) 37 dX11_hours_28 (by decide) (fun h_28 => ?_) (fun h_28 => ?_)
    · exact absurd h_28 hh
    · refine gq_aload_n (pc := 31) dX11_hours_31 rfl ?_
      refine gq_iconst (pc := 32) dX11_hours_32 kc_3 ?_
      refine gq_rV1i (pc := 33) dX11_hours_33 cv_X11_109 sh_0 (c_error kl_3 (by decide)) ⟨by decide, by decide⟩ rfl rfl (Nat.le_of_ble_eq_true rfl) ?_
      exact gq_iret (pc := 36) rfl dX11_hours_36 ⟨rfl, rfl⟩
  · exact absurd (p_nt_0.mpr h1) h_7
set_option maxHeartbeats 400000 in
theorem c_told_ok {k : Int32} {a : Nat} (ha : k = nI a) (h1 : 1 ≤ a) (h2 : a ≤ 5) : ge_N X ge_SH YX11_told 1 [.ref (ge_ad X.1 0), .int k] (ge_k g 25 r x hb) (some (.int (g 75 a))) (ge_k g 25 r x hb) := by
  refine gq_ofB (l := [(0, .ref (ge_ad X.1 0)), (1, .int k)]) (by decide) (Nat.le_of_ble_eq_true rfl) rfl ?_
  refine gq_iload_n (pc := 0) dX11_told_0 rfl ?_
  refine gq_iconst (pc := 1) dX11_told_1 kc_1 ?_
  refine gq_iconst (pc := 2) dX11_told_2 kc_5 ?_
  refine gq_rS3i (pc := 3) dX11_told_3 cs_X11_105 (c_outside _ _ _) ⟨by decide, by decide⟩ (Nat.le_of_ble_eq_true rfl) ?_
  refine gq_if_eq (pc := 6) 15 dX11_told_6 (by decide) (fun h_6 => ?_) (fun h_6 => ?_)
  · refine gq_aload_n (pc := 15) dX11_told_15 rfl ?_
    refine gq_getr (pc := 16) dX11_told_16 fl_X11_93_11 sh_0 rfl ?_
    refine gq_iload_n (pc := 19) dX11_told_19 rfl ?_
    refine kq_aldo (pw := 25) (pc := 20) (by decide) dX11_told_20 sh_75 (by decide) ha (by first | decide | omega) (by decide) ?_
    exact gq_iret (pc := 21) rfl dX11_told_21 ⟨rfl, rfl⟩
  · exact absurd (p_nt_0.mpr (p_in_l1 (N := 5) ha h1 h2 (by decide))) h_6
set_option maxHeartbeats 400000 in
theorem c_told_er {k : Int32} (h : p_in k 1 5 = 0) : ge_N X ge_SH YX11_told 1 [.ref (ge_ad X.1 0), .int k] (ge_k g 25 r x hb) (some (.int (-1000000000 - 1))) (ge_k (ge_up g 75 1 (g 75 1 + 1)) 25 r x hb) := by
  refine gq_ofB (l := [(0, .ref (ge_ad X.1 0)), (1, .int k)]) (by decide) (Nat.le_of_ble_eq_true rfl) rfl ?_
  refine gq_iload_n (pc := 0) dX11_told_0 rfl ?_
  refine gq_iconst (pc := 1) dX11_told_1 kc_1 ?_
  refine gq_iconst (pc := 2) dX11_told_2 kc_5 ?_
  refine gq_rS3i (pc := 3) dX11_told_3 cs_X11_105 (c_outside _ _ _) ⟨by decide, by decide⟩ (Nat.le_of_ble_eq_true rfl) ?_
  refine gq_if_eq (pc := 6) 15 dX11_told_6 (by decide) (fun h_6 => ?_) (fun h_6 => ?_)
  · exact absurd h (p_nt_0.mp h_6)
  · refine gq_aload_n (pc := 9) dX11_told_9 rfl ?_
    refine gq_iconst (pc := 10) dX11_told_10 kc_1 ?_
    refine gq_rV1i (pc := 11) dX11_told_11 cv_X11_109 sh_0 (c_error kl_1 (by decide)) ⟨by decide, by decide⟩ rfl rfl (Nat.le_of_ble_eq_true rfl) ?_
    exact gq_iret (pc := 14) rfl dX11_told_14 ⟨rfl, rfl⟩
end F3
