section P3
variable {X : ge_X} {g : ge_G} {r f : Nat → Int32} {c : Nat}
set_option maxHeartbeats 400000 in
theorem m_ofEye_ok0 {e : Int32} {j E V : Nat} (hI : p_inv c r) (he : e = nI j) (hj : j < E) (hE : E ≤ 8) (e2 : r 2 = nI E) (hV : V ≤ 6) (e3 : r 3 = nI V) : ge_N X ge_SH YX12_ofEye 42 [.ref (ge_ad X.1 76), .int e, .int 0] (ge_m g r f) (some (.int (p_e r j 0))) (ge_m g r f) := by
  refine gq_ofB (l := [(0, .ref (ge_ad X.1 76)), (1, .int e), (2, .int 0)]) (by decide) (Nat.le_of_ble_eq_true rfl) rfl ?_
  refine gq_aload_n (pc := 0) dX12_ofEye_0 rfl ?_
  refine gq_iload_n (pc := 1) dX12_ofEye_1 rfl ?_
  refine gq_rV1i (pc := 2) dX12_ofEye_2 cv_X12_66 sh_76 (k_isEye _) ⟨by decide, by decide⟩ rfl rfl (Nat.le_of_ble_eq_true rfl) ?_
  refine gq_if_eq (pc := 5) 18 dX12_ofEye_5 (by decide) (fun h_5 => ?_) (fun h_5 => ?_)
  · exact absurd h_5 (p_in_E he hj (by omega) e2)
  · refine gq_iload_n (pc := 8) dX12_ofEye_8 rfl ?_
    refine gq_iconst (pc := 9) dX12_ofEye_9 kc_0 ?_
    refine gq_bipush (pc := 10) dX12_ofEye_10 kb_6 ?_
    refine gq_rS3i (pc := 12) dX12_ofEye_12 cs_X12_41 (k_in _ _ _) ⟨by decide, by decide⟩ (Nat.le_of_ble_eq_true rfl) ?_
    refine gq_if_ne (pc := 15) 25 dX12_ofEye_15 (by decide) (fun h_15 => ?_) (fun h_15 => ?_)
    · refine gq_iload_n (pc := 25) dX12_ofEye_25 rfl ?_
      refine gq_iconst (pc := 26) dX12_ofEye_26 kc_4 ?_
      refine gq_ic_ge (pc := 27) 39 dX12_ofEye_27 (by decide) (fun h_27 => ?_) (fun h_27 => ?_)
      · exact absurd h_27 (by decide)
      · refine gq_aload_n (pc := 30) dX12_ofEye_30 rfl ?_
        refine gq_iload_n (pc := 31) dX12_ofEye_31 rfl ?_
        refine gq_iload_n (pc := 32) dX12_ofEye_32 rfl ?_
        refine gq_rV2i (pc := 33) dX12_ofEye_33 cv_X12_69 sh_76 (k_its he kl_0 (by omega)) ⟨by decide, by decide⟩ rfl rfl (Nat.le_of_ble_eq_true rfl) ?_
        refine gq_goto (pc := 36) 70 dX12_ofEye_36 (by decide) ?_
        exact gq_iret (pc := 70) rfl dX12_ofEye_70 ⟨rfl, rfl⟩
    · exact absurd h_15 (by decide)
set_option maxHeartbeats 400000 in
theorem m_ofEye_ok1 {e : Int32} {j E V : Nat} (hI : p_inv c r) (he : e = nI j) (hj : j < E) (hE : E ≤ 8) (e2 : r 2 = nI E) (hV : V ≤ 6) (e3 : r 3 = nI V) : ge_N X ge_SH YX12_ofEye 42 [.ref (ge_ad X.1 76), .int e, .int 1] (ge_m g r f) (some (.int (p_e r j 1))) (ge_m g r f) := by
  refine gq_ofB (l := [(0, .ref (ge_ad X.1 76)), (1, .int e), (2, .int 1)]) (by decide) (Nat.le_of_ble_eq_true rfl) rfl ?_
  refine gq_aload_n (pc := 0) dX12_ofEye_0 rfl ?_
  refine gq_iload_n (pc := 1) dX12_ofEye_1 rfl ?_
  refine gq_rV1i (pc := 2) dX12_ofEye_2 cv_X12_66 sh_76 (k_isEye _) ⟨by decide, by decide⟩ rfl rfl (Nat.le_of_ble_eq_true rfl) ?_
  refine gq_if_eq (pc := 5) 18 dX12_ofEye_5 (by decide) (fun h_5 => ?_) (fun h_5 => ?_)
  · exact absurd h_5 (p_in_E he hj (by omega) e2)
  · refine gq_iload_n (pc := 8) dX12_ofEye_8 rfl ?_
    refine gq_iconst (pc := 9) dX12_ofEye_9 kc_0 ?_
    refine gq_bipush (pc := 10) dX12_ofEye_10 kb_6 ?_
    refine gq_rS3i (pc := 12) dX12_ofEye_12 cs_X12_41 (k_in _ _ _) ⟨by decide, by decide⟩ (Nat.le_of_ble_eq_true rfl) ?_
    refine gq_if_ne (pc := 15) 25 dX12_ofEye_15 (by decide) (fun h_15 => ?_) (fun h_15 => ?_)
    · refine gq_iload_n (pc := 25) dX12_ofEye_25 rfl ?_
      refine gq_iconst (pc := 26) dX12_ofEye_26 kc_4 ?_
      refine gq_ic_ge (pc := 27) 39 dX12_ofEye_27 (by decide) (fun h_27 => ?_) (fun h_27 => ?_)
      · exact absurd h_27 (by decide)
      · refine gq_aload_n (pc := 30) dX12_ofEye_30 rfl ?_
        refine gq_iload_n (pc := 31) dX12_ofEye_31 rfl ?_
        refine gq_iload_n (pc := 32) dX12_ofEye_32 rfl ?_
        refine gq_rV2i (pc := 33) dX12_ofEye_33 cv_X12_69 sh_76 (k_its he kl_1 (by omega)) ⟨by decide, by decide⟩ rfl rfl (Nat.le_of_ble_eq_true rfl) ?_
        refine gq_goto (pc := 36) 70 dX12_ofEye_36 (by decide) ?_
        exact gq_iret (pc := 70) rfl dX12_ofEye_70 ⟨rfl, rfl⟩
    · exact absurd h_15 (by decide)
set_option maxHeartbeats 400000 in
theorem m_ofEye_ok2 {e : Int32} {j E V : Nat} (hI : p_inv c r) (he : e = nI j) (hj : j < E) (hE : E ≤ 8) (e2 : r 2 = nI E) (hV : V ≤ 6) (e3 : r 3 = nI V) : ge_N X ge_SH YX12_ofEye 42 [.ref (ge_ad X.1 76), .int e, .int 2] (ge_m g r f) (some (.int (p_e r j 2))) (ge_m g r f) := by
  refine gq_ofB (l := [(0, .ref (ge_ad X.1 76)), (1, .int e), (2, .int 2)]) (by decide) (Nat.le_of_ble_eq_true rfl) rfl ?_
  refine gq_aload_n (pc := 0) dX12_ofEye_0 rfl ?_
  refine gq_iload_n (pc := 1) dX12_ofEye_1 rfl ?_
  refine gq_rV1i (pc := 2) dX12_ofEye_2 cv_X12_66 sh_76 (k_isEye _) ⟨by decide, by decide⟩ rfl rfl (Nat.le_of_ble_eq_true rfl) ?_
  refine gq_if_eq (pc := 5) 18 dX12_ofEye_5 (by decide) (fun h_5 => ?_) (fun h_5 => ?_)
  · exact absurd h_5 (p_in_E he hj (by omega) e2)
  · refine gq_iload_n (pc := 8) dX12_ofEye_8 rfl ?_
    refine gq_iconst (pc := 9) dX12_ofEye_9 kc_0 ?_
    refine gq_bipush (pc := 10) dX12_ofEye_10 kb_6 ?_
    refine gq_rS3i (pc := 12) dX12_ofEye_12 cs_X12_41 (k_in _ _ _) ⟨by decide, by decide⟩ (Nat.le_of_ble_eq_true rfl) ?_
    refine gq_if_ne (pc := 15) 25 dX12_ofEye_15 (by decide) (fun h_15 => ?_) (fun h_15 => ?_)
    · refine gq_iload_n (pc := 25) dX12_ofEye_25 rfl ?_
      refine gq_iconst (pc := 26) dX12_ofEye_26 kc_4 ?_
      refine gq_ic_ge (pc := 27) 39 dX12_ofEye_27 (by decide) (fun h_27 => ?_) (fun h_27 => ?_)
      · exact absurd h_27 (by decide)
      · refine gq_aload_n (pc := 30) dX12_ofEye_30 rfl ?_
        refine gq_iload_n (pc := 31) dX12_ofEye_31 rfl ?_
        refine gq_iload_n (pc := 32) dX12_ofEye_32 rfl ?_
        refine gq_rV2i (pc := 33) dX12_ofEye_33 cv_X12_69 sh_76 (k_its he kl_2 (by omega)) ⟨by decide, by decide⟩ rfl rfl (Nat.le_of_ble_eq_true rfl) ?_
        refine gq_goto (pc := 36) 70 dX12_ofEye_36 (by decide) ?_
        exact gq_iret (pc := 70) rfl dX12_ofEye_70 ⟨rfl, rfl⟩
    · exact absurd h_15 (by decide)
set_option maxHeartbeats 400000 in
theorem m_ofEye_ok3 {e : Int32} {j E V : Nat} (hI : p_inv c r) (he : e = nI j) (hj : j < E) (hE : E ≤ 8) (e2 : r 2 = nI E) (hV : V ≤ 6) (e3 : r 3 = nI V) : ge_N X ge_SH YX12_ofEye 42 [.ref (ge_ad X.1 76), .int e, .int 3] (ge_m g r f) (some (.int (p_e r j 3))) (ge_m g r f) := by
  refine gq_ofB (l := [(0, .ref (ge_ad X.1 76)), (1, .int e), (2, .int 3)]) (by decide) (Nat.le_of_ble_eq_true rfl) rfl ?_
  refine gq_aload_n (pc := 0) dX12_ofEye_0 rfl ?_
  refine gq_iload_n (pc := 1) dX12_ofEye_1 rfl ?_
  refine gq_rV1i (pc := 2) dX12_ofEye_2 cv_X12_66 sh_76 (k_isEye _) ⟨by decide, by decide⟩ rfl rfl (Nat.le_of_ble_eq_true rfl) ?_
  refine gq_if_eq (pc := 5) 18 dX12_ofEye_5 (by decide) (fun h_5 => ?_) (fun h_5 => ?_)
  · exact absurd h_5 (p_in_E he hj (by omega) e2)
  · refine gq_iload_n (pc := 8) dX12_ofEye_8 rfl ?_
    refine gq_iconst (pc := 9) dX12_ofEye_9 kc_0 ?_
    refine gq_bipush (pc := 10) dX12_ofEye_10 kb_6 ?_
    refine gq_rS3i (pc := 12) dX12_ofEye_12 cs_X12_41 (k_in _ _ _) ⟨by decide, by decide⟩ (Nat.le_of_ble_eq_true rfl) ?_
    refine gq_if_ne (pc := 15) 25 dX12_ofEye_15 (by decide) (fun h_15 => ?_) (fun h_15 => ?_)
    · refine gq_iload_n (pc := 25) dX12_ofEye_25 rfl ?_
      refine gq_iconst (pc := 26) dX12_ofEye_26 kc_4 ?_
      refine gq_ic_ge (pc := 27) 39 dX12_ofEye_27 (by decide) (fun h_27 => ?_) (fun h_27 => ?_)
      · exact absurd h_27 (by decide)
      · refine gq_aload_n (pc := 30) dX12_ofEye_30 rfl ?_
        refine gq_iload_n (pc := 31) dX12_ofEye_31 rfl ?_
        refine gq_iload_n (pc := 32) dX12_ofEye_32 rfl ?_
        refine gq_rV2i (pc := 33) dX12_ofEye_33 cv_X12_69 sh_76 (k_its he kl_3 (by omega)) ⟨by decide, by decide⟩ rfl rfl (Nat.le_of_ble_eq_true rfl) ?_
        refine gq_goto (pc := 36) 70 dX12_ofEye_36 (by decide) ?_
        exact gq_iret (pc := 70) rfl dX12_ofEye_70 ⟨rfl, rfl⟩
    · exact absurd h_15 (by decide)
set_option maxHeartbeats 400000 in
theorem m_ofEye_ok4 {e : Int32} {j E V : Nat} (hI : p_inv c r) (he : e = nI j) (hj : j < E) (hE : E ≤ 8) (e2 : r 2 = nI E) (hV : V ≤ 6) (e3 : r 3 = nI V) : ge_N X ge_SH YX12_ofEye 42 [.ref (ge_ad X.1 76), .int e, .int 4] (ge_m g r f) (some (.int (p_wb r e V))) (ge_m g r f) := by
  refine gq_ofB (l := [(0, .ref (ge_ad X.1 76)), (1, .int e), (2, .int 4)]) (by decide) (Nat.le_of_ble_eq_true rfl) rfl ?_
  refine gq_aload_n (pc := 0) dX12_ofEye_0 rfl ?_
  refine gq_iload_n (pc := 1) dX12_ofEye_1 rfl ?_
  refine gq_rV1i (pc := 2) dX12_ofEye_2 cv_X12_66 sh_76 (k_isEye _) ⟨by decide, by decide⟩ rfl rfl (Nat.le_of_ble_eq_true rfl) ?_
  refine gq_if_eq (pc := 5) 18 dX12_ofEye_5 (by decide) (fun h_5 => ?_) (fun h_5 => ?_)
  · exact absurd h_5 (p_in_E he hj (by omega) e2)
  · refine gq_iload_n (pc := 8) dX12_ofEye_8 rfl ?_
    refine gq_iconst (pc := 9) dX12_ofEye_9 kc_0 ?_
    refine gq_bipush (pc := 10) dX12_ofEye_10 kb_6 ?_
    refine gq_rS3i (pc := 12) dX12_ofEye_12 cs_X12_41 (k_in _ _ _) ⟨by decide, by decide⟩ (Nat.le_of_ble_eq_true rfl) ?_
    refine gq_if_ne (pc := 15) 25 dX12_ofEye_15 (by decide) (fun h_15 => ?_) (fun h_15 => ?_)
    · refine gq_iload_n (pc := 25) dX12_ofEye_25 rfl ?_
      refine gq_iconst (pc := 26) dX12_ofEye_26 kc_4 ?_
      refine gq_ic_ge (pc := 27) 39 dX12_ofEye_27 (by decide) (fun h_27 => ?_) (fun h_27 => ?_)
      · refine gq_iload_n (pc := 39) dX12_ofEye_39 rfl ?_
        refine gq_iconst (pc := 40) dX12_ofEye_40 kc_4 ?_
        refine gq_ic_ne (pc := 41) 52 dX12_ofEye_41 (by decide) (fun h_41 => ?_) (fun h_41 => ?_)
        · exact absurd h_41 (by decide)
        · refine gq_aload_n (pc := 44) dX12_ofEye_44 rfl ?_
          refine gq_iload_n (pc := 45) dX12_ofEye_45 rfl ?_
          refine gq_rV1i (pc := 46) dX12_ofEye_46 cv_X12_72 sh_76 (k_wornBy hV e3) ⟨by decide, by decide⟩ rfl rfl (Nat.le_of_ble_eq_true rfl) ?_
          refine gq_goto (pc := 49) 70 dX12_ofEye_49 (by decide) ?_
          exact gq_iret (pc := 70) rfl dX12_ofEye_70 ⟨rfl, rfl⟩
      · exact absurd h_27 (by decide)
    · exact absurd h_15 (by decide)
set_option maxHeartbeats 400000 in
theorem m_ofEye_ok5 {e : Int32} {j E V : Nat} (hI : p_inv c r) (he : e = nI j) (hj : j < E) (hE : E ≤ 8) (e2 : r 2 = nI E) (hV : V ≤ 6) (e3 : r 3 = nI V) : ge_N X ge_SH YX12_ofEye 42 [.ref (ge_ad X.1 76), .int e, .int 5] (ge_m g r f) (some (.int (p_shows r j))) (ge_m g r f) := by
  refine gq_ofB (l := [(0, .ref (ge_ad X.1 76)), (1, .int e), (2, .int 5)]) (by decide) (Nat.le_of_ble_eq_true rfl) rfl ?_
  refine gq_aload_n (pc := 0) dX12_ofEye_0 rfl ?_
  refine gq_iload_n (pc := 1) dX12_ofEye_1 rfl ?_
  refine gq_rV1i (pc := 2) dX12_ofEye_2 cv_X12_66 sh_76 (k_isEye _) ⟨by decide, by decide⟩ rfl rfl (Nat.le_of_ble_eq_true rfl) ?_
  refine gq_if_eq (pc := 5) 18 dX12_ofEye_5 (by decide) (fun h_5 => ?_) (fun h_5 => ?_)
  · exact absurd h_5 (p_in_E he hj (by omega) e2)
  · refine gq_iload_n (pc := 8) dX12_ofEye_8 rfl ?_
    refine gq_iconst (pc := 9) dX12_ofEye_9 kc_0 ?_
    refine gq_bipush (pc := 10) dX12_ofEye_10 kb_6 ?_
    refine gq_rS3i (pc := 12) dX12_ofEye_12 cs_X12_41 (k_in _ _ _) ⟨by decide, by decide⟩ (Nat.le_of_ble_eq_true rfl) ?_
    refine gq_if_ne (pc := 15) 25 dX12_ofEye_15 (by decide) (fun h_15 => ?_) (fun h_15 => ?_)
    · refine gq_iload_n (pc := 25) dX12_ofEye_25 rfl ?_
      refine gq_iconst (pc := 26) dX12_ofEye_26 kc_4 ?_
      refine gq_ic_ge (pc := 27) 39 dX12_ofEye_27 (by decide) (fun h_27 => ?_) (fun h_27 => ?_)
      · refine gq_iload_n (pc := 39) dX12_ofEye_39 rfl ?_
        refine gq_iconst (pc := 40) dX12_ofEye_40 kc_4 ?_
        refine gq_ic_ne (pc := 41) 52 dX12_ofEye_41 (by decide) (fun h_41 => ?_) (fun h_41 => ?_)
        · refine gq_iload_n (pc := 52) dX12_ofEye_52 rfl ?_
          refine gq_iconst (pc := 53) dX12_ofEye_53 kc_5 ?_
          refine gq_ic_ne (pc := 54) 65 dX12_ofEye_54 (by decide) (fun h_54 => ?_) (fun h_54 => ?_)
          · exact absurd h_54 (by decide)
          · refine gq_aload_n (pc := 57) dX12_ofEye_57 rfl ?_
            refine gq_iload_n (pc := 58) dX12_ofEye_58 rfl ?_
            refine gq_rV1i (pc := 59) dX12_ofEye_59 cv_X12_75 sh_76 (k_shows hI he (by omega)) ⟨by decide, by decide⟩ rfl rfl (Nat.le_of_ble_eq_true rfl) ?_
            refine gq_goto (pc := 62) 70 dX12_ofEye_62 (by decide) ?_
            exact gq_iret (pc := 70) rfl dX12_ofEye_70 ⟨rfl, rfl⟩
        · exact absurd h_41 (by decide)
      · exact absurd h_27 (by decide)
    · exact absurd h_15 (by decide)
set_option maxHeartbeats 400000 in
theorem m_ofEye_ok6 {e : Int32} {j E V : Nat} (hI : p_inv c r) (he : e = nI j) (hj : j < E) (hE : E ≤ 8) (e2 : r 2 = nI E) (hV : V ≤ 6) (e3 : r 3 = nI V) : ge_N X ge_SH YX12_ofEye 42 [.ref (ge_ad X.1 76), .int e, .int 6] (ge_m g r f) (some (.int (p_heavy r j))) (ge_m g r f) := by
  refine gq_ofB (l := [(0, .ref (ge_ad X.1 76)), (1, .int e), (2, .int 6)]) (by decide) (Nat.le_of_ble_eq_true rfl) rfl ?_
  refine gq_aload_n (pc := 0) dX12_ofEye_0 rfl ?_
  refine gq_iload_n (pc := 1) dX12_ofEye_1 rfl ?_
  refine gq_rV1i (pc := 2) dX12_ofEye_2 cv_X12_66 sh_76 (k_isEye _) ⟨by decide, by decide⟩ rfl rfl (Nat.le_of_ble_eq_true rfl) ?_
  refine gq_if_eq (pc := 5) 18 dX12_ofEye_5 (by decide) (fun h_5 => ?_) (fun h_5 => ?_)
  · exact absurd h_5 (p_in_E he hj (by omega) e2)
  · refine gq_iload_n (pc := 8) dX12_ofEye_8 rfl ?_
    refine gq_iconst (pc := 9) dX12_ofEye_9 kc_0 ?_
    refine gq_bipush (pc := 10) dX12_ofEye_10 kb_6 ?_
    refine gq_rS3i (pc := 12) dX12_ofEye_12 cs_X12_41 (k_in _ _ _) ⟨by decide, by decide⟩ (Nat.le_of_ble_eq_true rfl) ?_
    refine gq_if_ne (pc := 15) 25 dX12_ofEye_15 (by decide) (fun h_15 => ?_) (fun h_15 => ?_)
    · refine gq_iload_n (pc := 25) dX12_ofEye_25 rfl ?_
      refine gq_iconst (pc := 26) dX12_ofEye_26 kc_4 ?_
      refine gq_ic_ge (pc := 27) 39 dX12_ofEye_27 (by decide) (fun h_27 => ?_) (fun h_27 => ?_)
      · refine gq_iload_n (pc := 39) dX12_ofEye_39 rfl ?_
        refine gq_iconst (pc := 40) dX12_ofEye_40 kc_4 ?_
        refine gq_ic_ne (pc := 41) 52 dX12_ofEye_41 (by decide) (fun h_41 => ?_) (fun h_41 => ?_)
        · refine gq_iload_n (pc := 52) dX12_ofEye_52 rfl ?_
          refine gq_iconst (pc := 53) dX12_ofEye_53 kc_5 ?_
          refine gq_ic_ne (pc := 54) 65 dX12_ofEye_54 (by decide) (fun h_54 => ?_) (fun h_54 => ?_)
          · refine gq_aload_n (pc := 65) dX12_ofEye_65 rfl ?_
            refine gq_iload_n (pc := 66) dX12_ofEye_66 rfl ?_
            refine gq_rV1i (pc := 67) dX12_ofEye_67 cv_X12_78 sh_76 (k_heavy hI he (by omega)) ⟨by decide, by decide⟩ rfl rfl (Nat.le_of_ble_eq_true rfl) ?_
            exact gq_iret (pc := 70) rfl dX12_ofEye_70 ⟨rfl, rfl⟩
          · exact absurd h_54 (by decide)
        · exact absurd h_41 (by decide)
      · exact absurd h_27 (by decide)
    · exact absurd h_15 (by decide)
set_option maxHeartbeats 400000 in
theorem m_ofEye_er {e k : Int32} (h : p_in e 0 (r 2 - 1) = 0 ∨ p_in k 0 6 = 0) : ge_N X ge_SH YX12_ofEye 42 [.ref (ge_ad X.1 76), .int e, .int k] (ge_m g r f) (some (.int (-1000000001))) (ge_m (ge_up g 81 1 (g 81 1 + 1)) r f) := by
  refine gq_ofB (l := [(0, .ref (ge_ad X.1 76)), (1, .int e), (2, .int k)]) (by decide) (Nat.le_of_ble_eq_true rfl) rfl ?_
  refine gq_aload_n (pc := 0) dX12_ofEye_0 rfl ?_
  refine gq_iload_n (pc := 1) dX12_ofEye_1 rfl ?_
  refine gq_rV1i (pc := 2) dX12_ofEye_2 cv_X12_66 sh_76 (k_isEye _) ⟨by decide, by decide⟩ rfl rfl (Nat.le_of_ble_eq_true rfl) ?_
  refine gq_if_eq (pc := 5) 18 dX12_ofEye_5 (by decide) (fun h_5 => ?_) (fun h_5 => ?_)
  · refine gq_aload_n (pc := 18) dX12_ofEye_18 rfl ?_
    refine gq_ldc (pc := 19) dX12_ofEye_19 kn_X12_53 ?_
    refine gq_rV1i (pc := 21) dX12_ofEye_21 cv_X12_54 sh_76 (k_errs (j := 1) (by decide) (by decide)) ⟨by decide, by decide⟩ rfl rfl (Nat.le_of_ble_eq_true rfl) ?_
    exact gq_iret (pc := 24) rfl dX12_ofEye_24 ⟨rfl, rfl⟩
  · refine gq_iload_n (pc := 8) dX12_ofEye_8 rfl ?_
    refine gq_iconst (pc := 9) dX12_ofEye_9 kc_0 ?_
    refine gq_bipush (pc := 10) dX12_ofEye_10 kb_6 ?_
    refine gq_rS3i (pc := 12) dX12_ofEye_12 cs_X12_41 (k_in _ _ _) ⟨by decide, by decide⟩ (Nat.le_of_ble_eq_true rfl) ?_
    refine gq_if_ne (pc := 15) 25 dX12_ofEye_15 (by decide) (fun h_15 => ?_) (fun h_15 => ?_)
    · exact (h.elim h_5 h_15).elim
    · refine gq_aload_n (pc := 18) dX12_ofEye_18 rfl ?_
      refine gq_ldc (pc := 19) dX12_ofEye_19 kn_X12_53 ?_
      refine gq_rV1i (pc := 21) dX12_ofEye_21 cv_X12_54 sh_76 (k_errs (j := 1) (by decide) (by decide)) ⟨by decide, by decide⟩ rfl rfl (Nat.le_of_ble_eq_true rfl) ?_
      exact gq_iret (pc := 24) rfl dX12_ofEye_24 ⟨rfl, rfl⟩
set_option maxHeartbeats 400000 in
theorem m_change_er {e k v : Int32} (h : p_in e 0 (r 2 - 1) = 0 ∨ p_in k 0 1 = 0 ∨ (k = 0 ∧ p_in v 0 9 = 0) ∨ (¬ k = 0 ∧ p_in v 0 9999 = 0)) : ge_N X ge_SH YX12_change 2 [.ref (ge_ad X.1 76), .int e, .int k, .int v] (ge_m g r f) (some (.int (-1000000001))) (ge_m (ge_up g 81 1 (g 81 1 + 1)) r f) := by
  have k1 : k = 1 → ¬ p_in k 0 1 = 0 := fun z => by rw [z]; decide
  have k0 : k = 0 → ¬ p_in k 0 1 = 0 := fun z => by rw [z]; decide
  refine gq_ofB (l := [(0, .ref (ge_ad X.1 76)), (1, .int e), (2, .int k), (3, .int v)]) (by decide) (Nat.le_of_ble_eq_true rfl) rfl ?_
  refine gq_iload_n (pc := 0) dX12_change_0 rfl ?_
  refine gq_if_ne (pc := 1) 14 dX12_change_1 (by decide) (fun h_1 => ?_) (fun h_1 => ?_)
  · refine gq_iload_n (pc := 14) dX12_change_14 rfl ?_
    refine gq_iconst (pc := 15) dX12_change_15 kc_1 ?_
    refine gq_ic_ne (pc := 16) 34 dX12_change_16 (by decide) (fun h_16 => ?_) (fun h_16 => ?_)
    · refine gq_iconst (pc := 34) dX12_change_34 kc_0 ?_
      refine gq_istore (pc := 35) (l' := [(4, _), (0, _), (1, _), (2, _), (3, _)]) dX12_change_35 (by decide) rfl ?_
      refine gq_aload_n (pc := 37) dX12_change_37 rfl ?_
      refine gq_iload_n (pc := 38) dX12_change_38 rfl ?_
      refine gq_rV1i (pc := 39) dX12_change_39 cv_X12_66 sh_76 (k_isEye _) ⟨by decide, by decide⟩ rfl rfl (Nat.le_of_ble_eq_true rfl) ?_
      refine gq_if_eq (pc := 42) 68 dX12_change_42 (by decide) (fun h_42 => ?_) (fun h_42 => ?_)
      · refine gq_aload_n (pc := 68) dX12_change_68 rfl ?_
        refine gq_ldc (pc := 69) dX12_change_69 kn_X12_53 ?_
        refine gq_rV1i (pc := 71) dX12_change_71 cv_X12_54 sh_76 (k_errs (j := 1) (by decide) (by decide)) ⟨by decide, by decide⟩ rfl rfl (Nat.le_of_ble_eq_true rfl) ?_
        exact gq_iret (pc := 74) rfl dX12_change_74 ⟨rfl, rfl⟩
      · refine gq_iload (pc := 45) dX12_change_45 rfl ?_
        refine gq_if_eq (pc := 47) 68 dX12_change_47 (by decide) (fun h_47 => ?_) (fun h_47 => ?_)
        · refine gq_aload_n (pc := 68) dX12_change_68 rfl ?_
          refine gq_ldc (pc := 69) dX12_change_69 kn_X12_53 ?_
          refine gq_rV1i (pc := 71) dX12_change_71 cv_X12_54 sh_76 (k_errs (j := 1) (by decide) (by decide)) ⟨by decide, by decide⟩ rfl rfl (Nat.le_of_ble_eq_true rfl) ?_
          exact gq_iret (pc := 74) rfl dX12_change_74 ⟨rfl, rfl⟩
        · exact absurd h_47 (by decide)
    · refine gq_iload_n (pc := 19) dX12_change_19 rfl ?_
      refine gq_iconst (pc := 20) dX12_change_20 kc_0 ?_
      refine gq_sipush (pc := 21) dX12_change_21 kq_9999 ?_
      refine gq_rS3i (pc := 24) dX12_change_24 cs_X12_41 (k_in _ _ _) ⟨by decide, by decide⟩ (Nat.le_of_ble_eq_true rfl) ?_
      refine gq_if_eq (pc := 27) 34 dX12_change_27 (by decide) (fun h_27 => ?_) (fun h_27 => ?_)
      · refine gq_iconst (pc := 34) dX12_change_34 kc_0 ?_
        refine gq_istore (pc := 35) (l' := [(4, _), (0, _), (1, _), (2, _), (3, _)]) dX12_change_35 (by decide) rfl ?_
        refine gq_aload_n (pc := 37) dX12_change_37 rfl ?_
        refine gq_iload_n (pc := 38) dX12_change_38 rfl ?_
        refine gq_rV1i (pc := 39) dX12_change_39 cv_X12_66 sh_76 (k_isEye _) ⟨by decide, by decide⟩ rfl rfl (Nat.le_of_ble_eq_true rfl) ?_
        refine gq_if_eq (pc := 42) 68 dX12_change_42 (by decide) (fun h_42 => ?_) (fun h_42 => ?_)
        · refine gq_aload_n (pc := 68) dX12_change_68 rfl ?_
          refine gq_ldc (pc := 69) dX12_change_69 kn_X12_53 ?_
          refine gq_rV1i (pc := 71) dX12_change_71 cv_X12_54 sh_76 (k_errs (j := 1) (by decide) (by decide)) ⟨by decide, by decide⟩ rfl rfl (Nat.le_of_ble_eq_true rfl) ?_
          exact gq_iret (pc := 74) rfl dX12_change_74 ⟨rfl, rfl⟩
        · refine gq_iload (pc := 45) dX12_change_45 rfl ?_
          refine gq_if_eq (pc := 47) 68 dX12_change_47 (by decide) (fun h_47 => ?_) (fun h_47 => ?_)
          · refine gq_aload_n (pc := 68) dX12_change_68 rfl ?_
            refine gq_ldc (pc := 69) dX12_change_69 kn_X12_53 ?_
            refine gq_rV1i (pc := 71) dX12_change_71 cv_X12_54 sh_76 (k_errs (j := 1) (by decide) (by decide)) ⟨by decide, by decide⟩ rfl rfl (Nat.le_of_ble_eq_true rfl) ?_
            exact gq_iret (pc := 74) rfl dX12_change_74 ⟨rfl, rfl⟩
          · exact absurd h_47 (by decide)
      · refine gq_iconst (pc := 30) dX12_change_30 kc_1 ?_
        refine gq_goto (pc := 31) 35 dX12_change_31 (by decide) ?_
        refine gq_istore (pc := 35) (l' := [(4, _), (0, _), (1, _), (2, _), (3, _)]) dX12_change_35 (by decide) rfl ?_
        refine gq_aload_n (pc := 37) dX12_change_37 rfl ?_
        refine gq_iload_n (pc := 38) dX12_change_38 rfl ?_
        refine gq_rV1i (pc := 39) dX12_change_39 cv_X12_66 sh_76 (k_isEye _) ⟨by decide, by decide⟩ rfl rfl (Nat.le_of_ble_eq_true rfl) ?_
        refine gq_if_eq (pc := 42) 68 dX12_change_42 (by decide) (fun h_42 => ?_) (fun h_42 => ?_)
        · refine gq_aload_n (pc := 68) dX12_change_68 rfl ?_
          refine gq_ldc (pc := 69) dX12_change_69 kn_X12_53 ?_
          refine gq_rV1i (pc := 71) dX12_change_71 cv_X12_54 sh_76 (k_errs (j := 1) (by decide) (by decide)) ⟨by decide, by decide⟩ rfl rfl (Nat.le_of_ble_eq_true rfl) ?_
          exact gq_iret (pc := 74) rfl dX12_change_74 ⟨rfl, rfl⟩
        · refine gq_iload (pc := 45) dX12_change_45 rfl ?_
          refine gq_if_eq (pc := 47) 68 dX12_change_47 (by decide) (fun h_47 => ?_) (fun h_47 => ?_)
          · refine gq_aload_n (pc := 68) dX12_change_68 rfl ?_
            refine gq_ldc (pc := 69) dX12_change_69 kn_X12_53 ?_
            refine gq_rV1i (pc := 71) dX12_change_71 cv_X12_54 sh_76 (k_errs (j := 1) (by decide) (by decide)) ⟨by decide, by decide⟩ rfl rfl (Nat.le_of_ble_eq_true rfl) ?_
            exact gq_iret (pc := 74) rfl dX12_change_74 ⟨rfl, rfl⟩
          · exact (h.elim h_42 (fun q => q.elim (k1 h_16) (fun q => q.elim (fun q => h_1 q.1) (fun q => h_27 q.2)))).elim
  · refine gq_iload_n (pc := 4) dX12_change_4 rfl ?_
    refine gq_iconst (pc := 5) dX12_change_5 kc_0 ?_
    refine gq_bipush (pc := 6) dX12_change_6 kb_9 ?_
    refine gq_rS3i (pc := 8) dX12_change_8 cs_X12_41 (k_in _ _ _) ⟨by decide, by decide⟩ (Nat.le_of_ble_eq_true rfl) ?_
    refine gq_goto (pc := 11) 35 dX12_change_11 (by decide) ?_
    refine gq_istore (pc := 35) (l' := [(4, _), (0, _), (1, _), (2, _), (3, _)]) dX12_change_35 (by decide) rfl ?_
    refine gq_aload_n (pc := 37) dX12_change_37 rfl ?_
    refine gq_iload_n (pc := 38) dX12_change_38 rfl ?_
    refine gq_rV1i (pc := 39) dX12_change_39 cv_X12_66 sh_76 (k_isEye _) ⟨by decide, by decide⟩ rfl rfl (Nat.le_of_ble_eq_true rfl) ?_
    refine gq_if_eq (pc := 42) 68 dX12_change_42 (by decide) (fun h_42 => ?_) (fun h_42 => ?_)
    · refine gq_aload_n (pc := 68) dX12_change_68 rfl ?_
      refine gq_ldc (pc := 69) dX12_change_69 kn_X12_53 ?_
      refine gq_rV1i (pc := 71) dX12_change_71 cv_X12_54 sh_76 (k_errs (j := 1) (by decide) (by decide)) ⟨by decide, by decide⟩ rfl rfl (Nat.le_of_ble_eq_true rfl) ?_
      exact gq_iret (pc := 74) rfl dX12_change_74 ⟨rfl, rfl⟩
    · refine gq_iload (pc := 45) dX12_change_45 rfl ?_
      refine gq_if_eq (pc := 47) 68 dX12_change_47 (by decide) (fun h_47 => ?_) (fun h_47 => ?_)
      · refine gq_aload_n (pc := 68) dX12_change_68 rfl ?_
        refine gq_ldc (pc := 69) dX12_change_69 kn_X12_53 ?_
        refine gq_rV1i (pc := 71) dX12_change_71 cv_X12_54 sh_76 (k_errs (j := 1) (by decide) (by decide)) ⟨by decide, by decide⟩ rfl rfl (Nat.le_of_ble_eq_true rfl) ?_
        exact gq_iret (pc := 74) rfl dX12_change_74 ⟨rfl, rfl⟩
      · exact (h.elim h_42 (fun q => q.elim (k0 h_1) (fun q => q.elim (fun q => h_47 q.2) (fun q => q.1 h_1)))).elim
set_option maxHeartbeats 400000 in
theorem m_set_er {e k v : Int32} (h : p_in e 0 (r 3 - 1) = 0 ∨ p_in k 0 1 = 0 ∨ (k = 0 ∧ p_in v 0 99 = 0) ∨ (¬ k = 0 ∧ p_in v 0 1023 = 0)) : ge_N X ge_SH YX12_set 2 [.ref (ge_ad X.1 76), .int e, .int k, .int v] (ge_m g r f) (some (.int (-1000000001))) (ge_m (ge_up g 81 1 (g 81 1 + 1)) r f) := by
  have k1 : k = 1 → ¬ p_in k 0 1 = 0 := fun z => by rw [z]; decide
  have k0 : k = 0 → ¬ p_in k 0 1 = 0 := fun z => by rw [z]; decide
  refine gq_ofB (l := [(0, .ref (ge_ad X.1 76)), (1, .int e), (2, .int k), (3, .int v)]) (by decide) (Nat.le_of_ble_eq_true rfl) rfl ?_
  refine gq_iload_n (pc := 0) dX12_set_0 rfl ?_
  refine gq_if_ne (pc := 1) 14 dX12_set_1 (by decide) (fun h_1 => ?_) (fun h_1 => ?_)
  · refine gq_iload_n (pc := 14) dX12_set_14 rfl ?_
    refine gq_iconst (pc := 15) dX12_set_15 kc_1 ?_
    refine gq_ic_ne (pc := 16) 34 dX12_set_16 (by decide) (fun h_16 => ?_) (fun h_16 => ?_)
    · refine gq_iconst (pc := 34) dX12_set_34 kc_0 ?_
      refine gq_istore (pc := 35) (l' := [(4, _), (0, _), (1, _), (2, _), (3, _)]) dX12_set_35 (by decide) rfl ?_
      refine gq_aload_n (pc := 37) dX12_set_37 rfl ?_
      refine gq_iload_n (pc := 38) dX12_set_38 rfl ?_
      refine gq_rV1i (pc := 39) dX12_set_39 cv_X12_84 sh_76 (k_isWearer _) ⟨by decide, by decide⟩ rfl rfl (Nat.le_of_ble_eq_true rfl) ?_
      refine gq_if_eq (pc := 42) 68 dX12_set_42 (by decide) (fun h_42 => ?_) (fun h_42 => ?_)
      · refine gq_aload_n (pc := 68) dX12_set_68 rfl ?_
        refine gq_ldc (pc := 69) dX12_set_69 kn_X12_53 ?_
        refine gq_rV1i (pc := 71) dX12_set_71 cv_X12_54 sh_76 (k_errs (j := 1) (by decide) (by decide)) ⟨by decide, by decide⟩ rfl rfl (Nat.le_of_ble_eq_true rfl) ?_
        exact gq_iret (pc := 74) rfl dX12_set_74 ⟨rfl, rfl⟩
      · refine gq_iload (pc := 45) dX12_set_45 rfl ?_
        refine gq_if_eq (pc := 47) 68 dX12_set_47 (by decide) (fun h_47 => ?_) (fun h_47 => ?_)
        · refine gq_aload_n (pc := 68) dX12_set_68 rfl ?_
          refine gq_ldc (pc := 69) dX12_set_69 kn_X12_53 ?_
          refine gq_rV1i (pc := 71) dX12_set_71 cv_X12_54 sh_76 (k_errs (j := 1) (by decide) (by decide)) ⟨by decide, by decide⟩ rfl rfl (Nat.le_of_ble_eq_true rfl) ?_
          exact gq_iret (pc := 74) rfl dX12_set_74 ⟨rfl, rfl⟩
        · exact absurd h_47 (by decide)
    · refine gq_iload_n (pc := 19) dX12_set_19 rfl ?_
      refine gq_iconst (pc := 20) dX12_set_20 kc_0 ?_
      refine gq_sipush (pc := 21) dX12_set_21 kq_1023 ?_
      refine gq_rS3i (pc := 24) dX12_set_24 cs_X12_41 (k_in _ _ _) ⟨by decide, by decide⟩ (Nat.le_of_ble_eq_true rfl) ?_
      refine gq_if_eq (pc := 27) 34 dX12_set_27 (by decide) (fun h_27 => ?_) (fun h_27 => ?_)
      · refine gq_iconst (pc := 34) dX12_set_34 kc_0 ?_
        refine gq_istore (pc := 35) (l' := [(4, _), (0, _), (1, _), (2, _), (3, _)]) dX12_set_35 (by decide) rfl ?_
        refine gq_aload_n (pc := 37) dX12_set_37 rfl ?_
        refine gq_iload_n (pc := 38) dX12_set_38 rfl ?_
        refine gq_rV1i (pc := 39) dX12_set_39 cv_X12_84 sh_76 (k_isWearer _) ⟨by decide, by decide⟩ rfl rfl (Nat.le_of_ble_eq_true rfl) ?_
        refine gq_if_eq (pc := 42) 68 dX12_set_42 (by decide) (fun h_42 => ?_) (fun h_42 => ?_)
        · refine gq_aload_n (pc := 68) dX12_set_68 rfl ?_
          refine gq_ldc (pc := 69) dX12_set_69 kn_X12_53 ?_
          refine gq_rV1i (pc := 71) dX12_set_71 cv_X12_54 sh_76 (k_errs (j := 1) (by decide) (by decide)) ⟨by decide, by decide⟩ rfl rfl (Nat.le_of_ble_eq_true rfl) ?_
          exact gq_iret (pc := 74) rfl dX12_set_74 ⟨rfl, rfl⟩
        · refine gq_iload (pc := 45) dX12_set_45 rfl ?_
          refine gq_if_eq (pc := 47) 68 dX12_set_47 (by decide) (fun h_47 => ?_) (fun h_47 => ?_)
          · refine gq_aload_n (pc := 68) dX12_set_68 rfl ?_
            refine gq_ldc (pc := 69) dX12_set_69 kn_X12_53 ?_
            refine gq_rV1i (pc := 71) dX12_set_71 cv_X12_54 sh_76 (k_errs (j := 1) (by decide) (by decide)) ⟨by decide, by decide⟩ rfl rfl (Nat.le_of_ble_eq_true rfl) ?_
            exact gq_iret (pc := 74) rfl dX12_set_74 ⟨rfl, rfl⟩
          · exact absurd h_47 (by decide)
      · refine gq_iconst (pc := 30) dX12_set_30 kc_1 ?_
        refine gq_goto (pc := 31) 35 dX12_set_31 (by decide) ?_
        refine gq_istore (pc := 35) (l' := [(4, _), (0, _), (1, _), (2, _), (3, _)]) dX12_set_35 (by decide) rfl ?_
        refine gq_aload_n (pc := 37) dX12_set_37 rfl ?_
        refine gq_iload_n (pc := 38) dX12_set_38 rfl ?_
        refine gq_rV1i (pc := 39) dX12_set_39 cv_X12_84 sh_76 (k_isWearer _) ⟨by decide, by decide⟩ rfl rfl (Nat.le_of_ble_eq_true rfl) ?_
        refine gq_if_eq (pc := 42) 68 dX12_set_42 (by decide) (fun h_42 => ?_) (fun h_42 => ?_)
        · refine gq_aload_n (pc := 68) dX12_set_68 rfl ?_
          refine gq_ldc (pc := 69) dX12_set_69 kn_X12_53 ?_
          refine gq_rV1i (pc := 71) dX12_set_71 cv_X12_54 sh_76 (k_errs (j := 1) (by decide) (by decide)) ⟨by decide, by decide⟩ rfl rfl (Nat.le_of_ble_eq_true rfl) ?_
          exact gq_iret (pc := 74) rfl dX12_set_74 ⟨rfl, rfl⟩
        · refine gq_iload (pc := 45) dX12_set_45 rfl ?_
          refine gq_if_eq (pc := 47) 68 dX12_set_47 (by decide) (fun h_47 => ?_) (fun h_47 => ?_)
          · refine gq_aload_n (pc := 68) dX12_set_68 rfl ?_
            refine gq_ldc (pc := 69) dX12_set_69 kn_X12_53 ?_
            refine gq_rV1i (pc := 71) dX12_set_71 cv_X12_54 sh_76 (k_errs (j := 1) (by decide) (by decide)) ⟨by decide, by decide⟩ rfl rfl (Nat.le_of_ble_eq_true rfl) ?_
            exact gq_iret (pc := 74) rfl dX12_set_74 ⟨rfl, rfl⟩
          · exact (h.elim h_42 (fun q => q.elim (k1 h_16) (fun q => q.elim (fun q => h_1 q.1) (fun q => h_27 q.2)))).elim
  · refine gq_iload_n (pc := 4) dX12_set_4 rfl ?_
    refine gq_iconst (pc := 5) dX12_set_5 kc_0 ?_
    refine gq_bipush (pc := 6) dX12_set_6 kb_99 ?_
    refine gq_rS3i (pc := 8) dX12_set_8 cs_X12_41 (k_in _ _ _) ⟨by decide, by decide⟩ (Nat.le_of_ble_eq_true rfl) ?_
    refine gq_goto (pc := 11) 35 dX12_set_11 (by decide) ?_
    refine gq_istore (pc := 35) (l' := [(4, _), (0, _), (1, _), (2, _), (3, _)]) dX12_set_35 (by decide) rfl ?_
    refine gq_aload_n (pc := 37) dX12_set_37 rfl ?_
    refine gq_iload_n (pc := 38) dX12_set_38 rfl ?_
    refine gq_rV1i (pc := 39) dX12_set_39 cv_X12_84 sh_76 (k_isWearer _) ⟨by decide, by decide⟩ rfl rfl (Nat.le_of_ble_eq_true rfl) ?_
    refine gq_if_eq (pc := 42) 68 dX12_set_42 (by decide) (fun h_42 => ?_) (fun h_42 => ?_)
    · refine gq_aload_n (pc := 68) dX12_set_68 rfl ?_
      refine gq_ldc (pc := 69) dX12_set_69 kn_X12_53 ?_
      refine gq_rV1i (pc := 71) dX12_set_71 cv_X12_54 sh_76 (k_errs (j := 1) (by decide) (by decide)) ⟨by decide, by decide⟩ rfl rfl (Nat.le_of_ble_eq_true rfl) ?_
      exact gq_iret (pc := 74) rfl dX12_set_74 ⟨rfl, rfl⟩
    · refine gq_iload (pc := 45) dX12_set_45 rfl ?_
      refine gq_if_eq (pc := 47) 68 dX12_set_47 (by decide) (fun h_47 => ?_) (fun h_47 => ?_)
      · refine gq_aload_n (pc := 68) dX12_set_68 rfl ?_
        refine gq_ldc (pc := 69) dX12_set_69 kn_X12_53 ?_
        refine gq_rV1i (pc := 71) dX12_set_71 cv_X12_54 sh_76 (k_errs (j := 1) (by decide) (by decide)) ⟨by decide, by decide⟩ rfl rfl (Nat.le_of_ble_eq_true rfl) ?_
        exact gq_iret (pc := 74) rfl dX12_set_74 ⟨rfl, rfl⟩
      · exact (h.elim h_42 (fun q => q.elim (k0 h_1) (fun q => q.elim (fun q => h_47 q.2) (fun q => q.1 h_1)))).elim
set_option maxHeartbeats 400000 in
theorem m_then_ok {n w a : Int32} {N V i k : Nat} (hN : n = nI N) (hN2 : N ≤ 60) (h : p_inv (c + N) r) (hw : w = nI i) (hi : i < V) (hV : V ≤ 6) (e3 : r 3 = nI V) (hk : a = nI k) (hk2 : k ≤ 3) : ge_N X ge_SH YX12_then 45 [.ref (ge_ad X.1 76), .int n, .int w, .int a] (ge_m g r f) (some (.int (p_o (p_hrs r N) i k))) (ge_m (ge_row g 79 r) r (p_tb f (p_pt f r N) (p_pb f r N))) := by
  refine gq_ofB (l := [(0, .ref (ge_ad X.1 76)), (1, .int n), (2, .int w), (3, .int a)]) (by decide) (Nat.le_of_ble_eq_true rfl) rfl ?_
  refine gq_iload_n (pc := 0) dX12_then_0 rfl ?_
  refine gq_iconst (pc := 1) dX12_then_1 kc_0 ?_
  refine gq_bipush (pc := 2) dX12_then_2 kb_60 ?_
  refine gq_rS3i (pc := 4) dX12_then_4 cs_X12_41 (k_in _ _ _) ⟨by decide, by decide⟩ (Nat.le_of_ble_eq_true rfl) ?_
  refine gq_if_eq (pc := 7) 27 dX12_then_7 (by decide) (fun h_7 => ?_) (fun h_7 => ?_)
  · exact absurd h_7 (p_in_le (N := 60) hN hN2 (by decide))
  · refine gq_aload_n (pc := 10) dX12_then_10 rfl ?_
    refine gq_iload_n (pc := 11) dX12_then_11 rfl ?_
    refine gq_rV1i (pc := 12) dX12_then_12 cv_X12_84 sh_76 (k_isWearer _) ⟨by decide, by decide⟩ rfl rfl (Nat.le_of_ble_eq_true rfl) ?_
    refine gq_if_eq (pc := 15) 27 dX12_then_15 (by decide) (fun h_15 => ?_) (fun h_15 => ?_)
    · exact absurd h_15 (p_in_E hw hi (by omega) e3)
    · refine gq_iload_n (pc := 18) dX12_then_18 rfl ?_
      refine gq_iconst (pc := 19) dX12_then_19 kc_0 ?_
      refine gq_iconst (pc := 20) dX12_then_20 kc_3 ?_
      refine gq_rS3i (pc := 21) dX12_then_21 cs_X12_41 (k_in _ _ _) ⟨by decide, by decide⟩ (Nat.le_of_ble_eq_true rfl) ?_
      refine gq_if_ne (pc := 24) 34 dX12_then_24 (by decide) (fun h_24 => ?_) (fun h_24 => ?_)
      · refine gq_aload_n (pc := 34) dX12_then_34 rfl ?_
        refine gq_aload_n (pc := 35) dX12_then_35 rfl ?_
        refine gq_getr (pc := 36) dX12_then_36 fl_X12_7_12 sh_76 rfl ?_
        refine gq_aload_n (pc := 39) dX12_then_39 rfl ?_
        refine gq_getr (pc := 40) dX12_then_40 fl_X12_16_12 sh_76 rfl ?_
        refine gq_rV2v (pc := 43) dX12_then_43 cv_X12_170 sh_76 (k_move_to sh_79 (by decide) (by decide)) ⟨by decide, by decide⟩ rfl rfl (Nat.le_of_ble_eq_true rfl) ?_
        refine gq_aload_n (pc := 46) dX12_then_46 rfl ?_
        refine gq_iload_n (pc := 47) dX12_then_47 rfl ?_
        refine gq_rV1i (pc := 48) dX12_then_48 cv_X12_195 sh_76 (k_passes hN (by omega) h) ⟨by decide, by decide⟩ rfl rfl (Nat.le_of_ble_eq_true rfl) ?_
        refine gq_pop (pc := 51) dX12_then_51 rfl ?_
        refine gq_aload_n (pc := 52) dX12_then_52 rfl ?_
        refine gq_iload_n (pc := 53) dX12_then_53 rfl ?_
        refine gq_iload_n (pc := 54) dX12_then_54 rfl ?_
        refine gq_rV2i (pc := 55) dX12_then_55 cv_X12_63 sh_76 (k_ones hw hk (by omega)) ⟨by decide, by decide⟩ rfl rfl (Nat.le_of_ble_eq_true rfl) ?_
        refine gq_istore (pc := 58) (l' := [(4, _), (0, _), (1, _), (2, _), (3, _)]) dX12_then_58 (by decide) rfl ?_
        refine gq_aload_n (pc := 60) dX12_then_60 rfl ?_
        refine gq_aload_n (pc := 61) dX12_then_61 rfl ?_
        refine gq_getr (pc := 62) dX12_then_62 fl_X12_16_12 sh_76 rfl ?_
        refine gq_aload_n (pc := 65) dX12_then_65 rfl ?_
        refine gq_getr (pc := 66) dX12_then_66 fl_X12_7_12 sh_76 rfl ?_
        refine gq_rV2v (pc := 69) dX12_then_69 cv_X12_170 sh_76 (k_move_back sh_79 (by decide) (by decide) (by decide)) ⟨by decide, by decide⟩ rfl rfl (Nat.le_of_ble_eq_true rfl) ?_
        refine gq_iload (pc := 72) dX12_then_72 rfl ?_
        exact gq_iret (pc := 74) rfl dX12_then_74 ⟨rfl, by rw [ge_row_self]⟩
      · exact absurd h_24 (p_in_le (N := 3) hk hk2 (by decide))
set_option maxHeartbeats 400000 in
theorem m_then_er {n w a : Int32} (h : p_in n 0 60 = 0 ∨ p_in w 0 (r 3 - 1) = 0 ∨ p_in a 0 3 = 0) : ge_N X ge_SH YX12_then 45 [.ref (ge_ad X.1 76), .int n, .int w, .int a] (ge_m g r f) (some (.int (-1000000001))) (ge_m (ge_up g 81 1 (g 81 1 + 1)) r f) := by
  refine gq_ofB (l := [(0, .ref (ge_ad X.1 76)), (1, .int n), (2, .int w), (3, .int a)]) (by decide) (Nat.le_of_ble_eq_true rfl) rfl ?_
  refine gq_iload_n (pc := 0) dX12_then_0 rfl ?_
  refine gq_iconst (pc := 1) dX12_then_1 kc_0 ?_
  refine gq_bipush (pc := 2) dX12_then_2 kb_60 ?_
  refine gq_rS3i (pc := 4) dX12_then_4 cs_X12_41 (k_in _ _ _) ⟨by decide, by decide⟩ (Nat.le_of_ble_eq_true rfl) ?_
  refine gq_if_eq (pc := 7) 27 dX12_then_7 (by decide) (fun h_7 => ?_) (fun h_7 => ?_)
  · refine gq_aload_n (pc := 27) dX12_then_27 rfl ?_
    refine gq_ldc (pc := 28) dX12_then_28 kn_X12_53 ?_
    refine gq_rV1i (pc := 30) dX12_then_30 cv_X12_54 sh_76 (k_errs (j := 1) (by decide) (by decide)) ⟨by decide, by decide⟩ rfl rfl (Nat.le_of_ble_eq_true rfl) ?_
    exact gq_iret (pc := 33) rfl dX12_then_33 ⟨rfl, rfl⟩
  · refine gq_aload_n (pc := 10) dX12_then_10 rfl ?_
    refine gq_iload_n (pc := 11) dX12_then_11 rfl ?_
    refine gq_rV1i (pc := 12) dX12_then_12 cv_X12_84 sh_76 (k_isWearer _) ⟨by decide, by decide⟩ rfl rfl (Nat.le_of_ble_eq_true rfl) ?_
    refine gq_if_eq (pc := 15) 27 dX12_then_15 (by decide) (fun h_15 => ?_) (fun h_15 => ?_)
    · refine gq_aload_n (pc := 27) dX12_then_27 rfl ?_
      refine gq_ldc (pc := 28) dX12_then_28 kn_X12_53 ?_
      refine gq_rV1i (pc := 30) dX12_then_30 cv_X12_54 sh_76 (k_errs (j := 1) (by decide) (by decide)) ⟨by decide, by decide⟩ rfl rfl (Nat.le_of_ble_eq_true rfl) ?_
      exact gq_iret (pc := 33) rfl dX12_then_33 ⟨rfl, rfl⟩
    · refine gq_iload_n (pc := 18) dX12_then_18 rfl ?_
      refine gq_iconst (pc := 19) dX12_then_19 kc_0 ?_
      refine gq_iconst (pc := 20) dX12_then_20 kc_3 ?_
      refine gq_rS3i (pc := 21) dX12_then_21 cs_X12_41 (k_in _ _ _) ⟨by decide, by decide⟩ (Nat.le_of_ble_eq_true rfl) ?_
      refine gq_if_ne (pc := 24) 34 dX12_then_24 (by decide) (fun h_24 => ?_) (fun h_24 => ?_)
      · exact (h.elim h_7 (fun q => q.elim h_15 h_24)).elim
      · refine gq_aload_n (pc := 27) dX12_then_27 rfl ?_
        refine gq_ldc (pc := 28) dX12_then_28 kn_X12_53 ?_
        refine gq_rV1i (pc := 30) dX12_then_30 cv_X12_54 sh_76 (k_errs (j := 1) (by decide) (by decide)) ⟨by decide, by decide⟩ rfl rfl (Nat.le_of_ble_eq_true rfl) ?_
        exact gq_iret (pc := 33) rfl dX12_then_33 ⟨rfl, rfl⟩
set_option maxHeartbeats 400000 in
theorem m_blind_ok {n : Int32} {N V : Nat} (hN : n = nI N) (hN2 : N ≤ 60) (h : p_inv (c + N) r) (hV : V ≤ 6) (e3 : p_hrs r N 3 = nI V) : ge_N X ge_SH YX12_blind 45 [.ref (ge_ad X.1 76), .int n] (ge_m g r f) (some (.int (1023 &&& (p_sn (p_hrs r N) V ^^^ -1)))) (ge_m (ge_row g 79 r) r (p_tb f (p_pt f r N) (p_pb f r N))) := by
  refine gq_ofB (l := [(0, .ref (ge_ad X.1 76)), (1, .int n)]) (by decide) (Nat.le_of_ble_eq_true rfl) rfl ?_
  refine gq_iload_n (pc := 0) dX12_blind_0 rfl ?_
  refine gq_iconst (pc := 1) dX12_blind_1 kc_0 ?_
  refine gq_bipush (pc := 2) dX12_blind_2 kb_60 ?_
  refine gq_rS3i (pc := 4) dX12_blind_4 cs_X12_41 (k_in _ _ _) ⟨by decide, by decide⟩ (Nat.le_of_ble_eq_true rfl) ?_
  refine gq_if_ne (pc := 7) 17 dX12_blind_7 (by decide) (fun h_7 => ?_) (fun h_7 => ?_)
  · refine gq_aload_n (pc := 17) dX12_blind_17 rfl ?_
    refine gq_aload_n (pc := 18) dX12_blind_18 rfl ?_
    refine gq_getr (pc := 19) dX12_blind_19 fl_X12_7_12 sh_76 rfl ?_
    refine gq_aload_n (pc := 22) dX12_blind_22 rfl ?_
    refine gq_getr (pc := 23) dX12_blind_23 fl_X12_16_12 sh_76 rfl ?_
    refine gq_rV2v (pc := 26) dX12_blind_26 cv_X12_170 sh_76 (k_move_to sh_79 (by decide) (by decide)) ⟨by decide, by decide⟩ rfl rfl (Nat.le_of_ble_eq_true rfl) ?_
    refine gq_aload_n (pc := 29) dX12_blind_29 rfl ?_
    refine gq_iload_n (pc := 30) dX12_blind_30 rfl ?_
    refine gq_rV1i (pc := 31) dX12_blind_31 cv_X12_195 sh_76 (k_passes hN (by omega) h) ⟨by decide, by decide⟩ rfl rfl (Nat.le_of_ble_eq_true rfl) ?_
    refine gq_pop (pc := 34) dX12_blind_34 rfl ?_
    refine gq_sipush (pc := 35) dX12_blind_35 kq_1023 ?_
    refine gq_aload_n (pc := 38) dX12_blind_38 rfl ?_
    refine gq_rV0i (pc := 39) dX12_blind_39 cv_X12_210 sh_76 (k_seenByAny hV e3) ⟨by decide, by decide⟩ rfl rfl (Nat.le_of_ble_eq_true rfl) ?_
    refine gq_iconst (pc := 42) dX12_blind_42 kc_m1 ?_
    refine gq_ixor (pc := 43) dX12_blind_43 ?_
    refine gq_iand (pc := 44) dX12_blind_44 ?_
    refine gq_istore_n (pc := 45) (l' := [(2, _), (0, _), (1, _)]) dX12_blind_45 (by decide) rfl ?_
    refine gq_aload_n (pc := 46) dX12_blind_46 rfl ?_
    refine gq_aload_n (pc := 47) dX12_blind_47 rfl ?_
    refine gq_getr (pc := 48) dX12_blind_48 fl_X12_16_12 sh_76 rfl ?_
    refine gq_aload_n (pc := 51) dX12_blind_51 rfl ?_
    refine gq_getr (pc := 52) dX12_blind_52 fl_X12_7_12 sh_76 rfl ?_
    refine gq_rV2v (pc := 55) dX12_blind_55 cv_X12_170 sh_76 (k_move_back sh_79 (by decide) (by decide) (by decide)) ⟨by decide, by decide⟩ rfl rfl (Nat.le_of_ble_eq_true rfl) ?_
    refine gq_iload_n (pc := 58) dX12_blind_58 rfl ?_
    exact gq_iret (pc := 59) rfl dX12_blind_59 ⟨rfl, by rw [ge_row_self]⟩
  · exact absurd h_7 (p_in_le (N := 60) hN hN2 (by decide))
set_option maxHeartbeats 400000 in
theorem m_blind_er {n : Int32} (h : p_in n 0 60 = 0) : ge_N X ge_SH YX12_blind 45 [.ref (ge_ad X.1 76), .int n] (ge_m g r f) (some (.int (-1000000001))) (ge_m (ge_up g 81 1 (g 81 1 + 1)) r f) := by
  refine gq_ofB (l := [(0, .ref (ge_ad X.1 76)), (1, .int n)]) (by decide) (Nat.le_of_ble_eq_true rfl) rfl ?_
  refine gq_iload_n (pc := 0) dX12_blind_0 rfl ?_
  refine gq_iconst (pc := 1) dX12_blind_1 kc_0 ?_
  refine gq_bipush (pc := 2) dX12_blind_2 kb_60 ?_
  refine gq_rS3i (pc := 4) dX12_blind_4 cs_X12_41 (k_in _ _ _) ⟨by decide, by decide⟩ (Nat.le_of_ble_eq_true rfl) ?_
  refine gq_if_ne (pc := 7) 17 dX12_blind_7 (by decide) (fun h_7 => ?_) (fun h_7 => ?_)
  · exact absurd h h_7
  · refine gq_aload_n (pc := 10) dX12_blind_10 rfl ?_
    refine gq_ldc (pc := 11) dX12_blind_11 kn_X12_53 ?_
    refine gq_rV1i (pc := 13) dX12_blind_13 cv_X12_54 sh_76 (k_errs (j := 1) (by decide) (by decide)) ⟨by decide, by decide⟩ rfl rfl (Nat.le_of_ble_eq_true rfl) ?_
    exact gq_iret (pc := 16) rfl dX12_blind_16 ⟨rfl, rfl⟩
set_option maxHeartbeats 1000000 in
theorem m_dreads_ok {n : Int32} {N : Nat} (hN : n = nI N) (hN2 : N ≤ 60) (h : p_inv (c + N) r) : ge_N X ge_SH YX12_dreads 45 [.ref (ge_ad X.1 76), .int n] (ge_m g r f) (some (.int (p_bn r N))) (ge_m (ge_row g 79 r) r (p_tb f (p_pt f r N) (p_pb f r N))) := by
  refine gq_ofB (l := [(0, .ref (ge_ad X.1 76)), (1, .int n)]) (by decide) (Nat.le_of_ble_eq_true rfl) rfl ?_
  have key : ∀ (m i : Nat), i + m = N → ge_B X ge_SH YX12_dreads 45 (fun v2 g2 => v2 = some (.int (p_bn r N)) ∧ g2 = ge_m (ge_row g 79 r) r (p_tb f (p_pt f r N) (p_pb f r N))) 33 [(3, .int (nI i)), (2, .int (p_bn r i)), (0, .ref (ge_ad X.1 76)), (1, .int n)] [] (ge_m (ge_row g 79 r) (p_hrs r i) (p_tb f (p_pt f r i) (p_pb f r i))) := by
    intro m
    induction m with
    | zero =>
      intro i hi
      obtain rfl : i = N := hi
      refine gq_iload_n (pc := 33) dX12_dreads_33 rfl ?_
      refine gq_iload_n (pc := 34) dX12_dreads_34 rfl ?_
      refine gq_ic_ge (pc := 35) 55 dX12_dreads_35 (by decide) (fun h_35 => ?_) (fun h_35 => ?_)
      · refine gq_aload_n (pc := 55) dX12_dreads_55 rfl ?_
        refine gq_aload_n (pc := 56) dX12_dreads_56 rfl ?_
        refine gq_getr (pc := 57) dX12_dreads_57 fl_X12_16_12 sh_76 rfl ?_
        refine gq_aload_n (pc := 60) dX12_dreads_60 rfl ?_
        refine gq_getr (pc := 61) dX12_dreads_61 fl_X12_7_12 sh_76 rfl ?_
        refine gq_rV2v (pc := 64) dX12_dreads_64 cv_X12_170 sh_76 (k_move_back sh_79 (by decide) (by decide) (by decide)) ⟨by decide, by decide⟩ rfl rfl (Nat.le_of_ble_eq_true rfl) ?_
        refine gq_iload_n (pc := 67) dX12_dreads_67 rfl ?_
        exact gq_iret (pc := 68) rfl dX12_dreads_68 ⟨rfl, by rw [ge_row_self]⟩
      · exact absurd (by rw [hN]; exact Int32.le_refl _) h_35
    | succ m ih =>
      intro i hi
      have a := p_inv_hrs (c := c + N - i) i (r := r) (by rw [show c + N - i + i = c + N by omega]; exact h)
      refine gq_iload_n (pc := 33) dX12_dreads_33 rfl ?_
      refine gq_iload_n (pc := 34) dX12_dreads_34 rfl ?_
      refine gq_ic_ge (pc := 35) 55 dX12_dreads_35 (by decide) (fun h_35 => ?_) (fun h_35 => ?_)
      · exact absurd ((nI_leI (by omega) (by omega)).mp (hN ▸ h_35)) (by omega)
      · refine gq_aload_n (pc := 38) dX12_dreads_38 rfl ?_
        refine gq_rV0v (pc := 39) dX12_dreads_39 cv_X12_188 sh_76 (k_oneHour a) ⟨by decide, by decide⟩ rfl rfl (Nat.le_of_ble_eq_true rfl) ?_
        refine gq_tog (g := ge_m (ge_row g 79 r) (p_hrs r (i + 1)) (p_tb f (p_pt f r (i + 1)) (p_pb f r (i + 1)))) (by rw [p_tb_tb]; rfl) ?_
        refine gq_iload_n (pc := 42) dX12_dreads_42 rfl ?_
        refine gq_aload_n (pc := 43) dX12_dreads_43 rfl ?_
        refine qw_get (v := p_Bo (p_hrs r i)) (pc := 44) dX12_dreads_44 fl_X12_174_12 sh_76 rfl rfl (by decide) ?_
        refine gq_iadd (pc := 47) dX12_dreads_47 ?_
        refine gq_istore_n (pc := 48) (l' := [(2, _), (3, _), (0, _), (1, _)]) dX12_dreads_48 (by decide) rfl ?_
        refine gq_iinc (pc := 49) (l' := [(3, _), (2, _), (0, _), (1, _)]) dX12_dreads_49 rfl (ge_inc1 i) (by decide) rfl ?_
        refine gq_goto (pc := 52) 33 dX12_dreads_52 (by decide) ?_
        exact ih (i + 1) (by omega)
  refine gq_iload_n (pc := 0) dX12_dreads_0 rfl ?_
  refine gq_iconst (pc := 1) dX12_dreads_1 kc_0 ?_
  refine gq_bipush (pc := 2) dX12_dreads_2 kb_60 ?_
  refine gq_rS3i (pc := 4) dX12_dreads_4 cs_X12_41 (k_in _ _ _) ⟨by decide, by decide⟩ (Nat.le_of_ble_eq_true rfl) ?_
  refine gq_if_ne (pc := 7) 17 dX12_dreads_7 (by decide) (fun h_7 => ?_) (fun h_7 => ?_)
  · refine gq_iconst (pc := 17) dX12_dreads_17 kc_0 ?_
    refine gq_istore_n (pc := 18) (l' := [(2, _), (0, _), (1, _)]) dX12_dreads_18 (by decide) rfl ?_
    refine gq_aload_n (pc := 19) dX12_dreads_19 rfl ?_
    refine gq_aload_n (pc := 20) dX12_dreads_20 rfl ?_
    refine gq_getr (pc := 21) dX12_dreads_21 fl_X12_7_12 sh_76 rfl ?_
    refine gq_aload_n (pc := 24) dX12_dreads_24 rfl ?_
    refine gq_getr (pc := 25) dX12_dreads_25 fl_X12_16_12 sh_76 rfl ?_
    refine gq_rV2v (pc := 28) dX12_dreads_28 cv_X12_170 sh_76 (k_move_to sh_79 (by decide) (by decide)) ⟨by decide, by decide⟩ rfl rfl (Nat.le_of_ble_eq_true rfl) ?_
    refine gq_iconst (pc := 31) dX12_dreads_31 kc_0 ?_
    refine gq_istore_n (pc := 32) (l' := [(3, _), (2, _), (0, _), (1, _)]) dX12_dreads_32 (by decide) rfl ?_
    refine gq_sub [0, 1, 2, 3] rfl ?_
    refine gq_tog (g := ge_m (ge_row g 79 r) r (p_tb f (f 15) (f 16))) (by rw [p_tb_self]) ?_
    exact key N 0 (by omega)
  · exact absurd h_7 (p_in_le (N := 60) hN hN2 (by decide))
set_option maxHeartbeats 400000 in
theorem m_dreads_er {n : Int32} (h : p_in n 0 60 = 0) : ge_N X ge_SH YX12_dreads 45 [.ref (ge_ad X.1 76), .int n] (ge_m g r f) (some (.int (-1000000001))) (ge_m (ge_up g 81 1 (g 81 1 + 1)) r f) := by
  refine gq_ofB (l := [(0, .ref (ge_ad X.1 76)), (1, .int n)]) (by decide) (Nat.le_of_ble_eq_true rfl) rfl ?_
  refine gq_iload_n (pc := 0) dX12_dreads_0 rfl ?_
  refine gq_iconst (pc := 1) dX12_dreads_1 kc_0 ?_
  refine gq_bipush (pc := 2) dX12_dreads_2 kb_60 ?_
  refine gq_rS3i (pc := 4) dX12_dreads_4 cs_X12_41 (k_in _ _ _) ⟨by decide, by decide⟩ (Nat.le_of_ble_eq_true rfl) ?_
  refine gq_if_ne (pc := 7) 17 dX12_dreads_7 (by decide) (fun h_7 => ?_) (fun h_7 => ?_)
  · exact absurd h h_7
  · refine gq_aload_n (pc := 10) dX12_dreads_10 rfl ?_
    refine gq_ldc (pc := 11) dX12_dreads_11 kn_X12_53 ?_
    refine gq_rV1i (pc := 13) dX12_dreads_13 cv_X12_54 sh_76 (k_errs (j := 1) (by decide) (by decide)) ⟨by decide, by decide⟩ rfl rfl (Nat.le_of_ble_eq_true rfl) ?_
    exact gq_iret (pc := 16) rfl dX12_dreads_16 ⟨rfl, rfl⟩
set_option maxHeartbeats 400000 in
theorem m_count0 {V E : Nat} (hV : V ≤ 6) (e3 : r 3 = nI V) (hE : E ≤ 8) (e2 : r 2 = nI E) : ge_N X ge_SH YX12_count 3 [.ref (ge_ad X.1 76), .int 0] (ge_m g r f) (some (.int (r 2))) (ge_m g r f) := by
  refine gq_ofB (l := [(0, .ref (ge_ad X.1 76)), (1, .int 0)]) (by decide) (Nat.le_of_ble_eq_true rfl) rfl ?_
  refine gq_iload_n (pc := 0) dX12_count_0 rfl ?_
  refine gq_tabI (pc := 1) (off := 55) 56 dX12_count_1 (by decide) (by decide) (by decide) (by decide) ?_
  refine gq_aload_n (pc := 56) dX12_count_56 rfl ?_
  refine gq_getr (pc := 57) dX12_count_57 fl_X12_7_12 sh_76 rfl ?_
  refine gq_iconst (pc := 60) dX12_count_60 kc_2 ?_
  refine qm_ald (pc := 61) dX12_count_61 kl_2 (by first | decide | omega) ?_
  exact gq_iret (pc := 62) rfl dX12_count_62 ⟨rfl, rfl⟩
set_option maxHeartbeats 400000 in
theorem m_count1 {V E : Nat} (hV : V ≤ 6) (e3 : r 3 = nI V) (hE : E ≤ 8) (e2 : r 2 = nI E) : ge_N X ge_SH YX12_count 3 [.ref (ge_ad X.1 76), .int 1] (ge_m g r f) (some (.int (r 3))) (ge_m g r f) := by
  refine gq_ofB (l := [(0, .ref (ge_ad X.1 76)), (1, .int 1)]) (by decide) (Nat.le_of_ble_eq_true rfl) rfl ?_
  refine gq_iload_n (pc := 0) dX12_count_0 rfl ?_
  refine gq_tabI (pc := 1) (off := 62) 63 dX12_count_1 (by decide) (by decide) (by decide) (by decide) ?_
  refine gq_aload_n (pc := 63) dX12_count_63 rfl ?_
  refine gq_getr (pc := 64) dX12_count_64 fl_X12_7_12 sh_76 rfl ?_
  refine gq_iconst (pc := 67) dX12_count_67 kc_3 ?_
  refine qm_ald (pc := 68) dX12_count_68 kl_3 (by first | decide | omega) ?_
  exact gq_iret (pc := 69) rfl dX12_count_69 ⟨rfl, rfl⟩
set_option maxHeartbeats 400000 in
theorem m_count2 {V E : Nat} (hV : V ≤ 6) (e3 : r 3 = nI V) (hE : E ≤ 8) (e2 : r 2 = nI E) : ge_N X ge_SH YX12_count 3 [.ref (ge_ad X.1 76), .int 2] (ge_m g r f) (some (.int (r 0))) (ge_m g r f) := by
  refine gq_ofB (l := [(0, .ref (ge_ad X.1 76)), (1, .int 2)]) (by decide) (Nat.le_of_ble_eq_true rfl) rfl ?_
  refine gq_iload_n (pc := 0) dX12_count_0 rfl ?_
  refine gq_tabI (pc := 1) (off := 69) 70 dX12_count_1 (by decide) (by decide) (by decide) (by decide) ?_
  refine gq_aload_n (pc := 70) dX12_count_70 rfl ?_
  refine gq_getr (pc := 71) dX12_count_71 fl_X12_7_12 sh_76 rfl ?_
  refine gq_iconst (pc := 74) dX12_count_74 kc_0 ?_
  refine qm_ald (pc := 75) dX12_count_75 kl_0 (by first | decide | omega) ?_
  exact gq_iret (pc := 76) rfl dX12_count_76 ⟨rfl, rfl⟩
set_option maxHeartbeats 400000 in
theorem m_count3 {V E : Nat} (hV : V ≤ 6) (e3 : r 3 = nI V) (hE : E ≤ 8) (e2 : r 2 = nI E) : ge_N X ge_SH YX12_count 3 [.ref (ge_ad X.1 76), .int 3] (ge_m g r f) (some (.int (p_bs r V))) (ge_m g r f) := by
  refine gq_ofB (l := [(0, .ref (ge_ad X.1 76)), (1, .int 3)]) (by decide) (Nat.le_of_ble_eq_true rfl) rfl ?_
  refine gq_iload_n (pc := 0) dX12_count_0 rfl ?_
  refine gq_tabI (pc := 1) (off := 76) 77 dX12_count_1 (by decide) (by decide) (by decide) (by decide) ?_
  refine gq_aload_n (pc := 77) dX12_count_77 rfl ?_
  refine gq_rV0i (pc := 78) dX12_count_78 cv_X12_261 sh_76 (k_bearsOfAll hV e3) ⟨by decide, by decide⟩ rfl rfl (Nat.le_of_ble_eq_true rfl) ?_
  exact gq_iret (pc := 81) rfl dX12_count_81 ⟨rfl, rfl⟩
set_option maxHeartbeats 400000 in
theorem m_count4 {V E : Nat} (hV : V ≤ 6) (e3 : r 3 = nI V) (hE : E ≤ 8) (e2 : r 2 = nI E) : ge_N X ge_SH YX12_count 3 [.ref (ge_ad X.1 76), .int 4] (ge_m g r f) (some (.int (p_sn r V))) (ge_m g r f) := by
  refine gq_ofB (l := [(0, .ref (ge_ad X.1 76)), (1, .int 4)]) (by decide) (Nat.le_of_ble_eq_true rfl) rfl ?_
  refine gq_iload_n (pc := 0) dX12_count_0 rfl ?_
  refine gq_tabI (pc := 1) (off := 81) 82 dX12_count_1 (by decide) (by decide) (by decide) (by decide) ?_
  refine gq_aload_n (pc := 82) dX12_count_82 rfl ?_
  refine gq_rV0i (pc := 83) dX12_count_83 cv_X12_210 sh_76 (k_seenByAny hV e3) ⟨by decide, by decide⟩ rfl rfl (Nat.le_of_ble_eq_true rfl) ?_
  exact gq_iret (pc := 86) rfl dX12_count_86 ⟨rfl, rfl⟩
set_option maxHeartbeats 400000 in
theorem m_count5 {V E : Nat} (hV : V ≤ 6) (e3 : r 3 = nI V) (hE : E ≤ 8) (e2 : r 2 = nI E) : ge_N X ge_SH YX12_count 3 [.ref (ge_ad X.1 76), .int 5] (ge_m g r f) (some (.int (p_ws r V E))) (ge_m g r f) := by
  refine gq_ofB (l := [(0, .ref (ge_ad X.1 76)), (1, .int 5)]) (by decide) (Nat.le_of_ble_eq_true rfl) rfl ?_
  refine gq_iload_n (pc := 0) dX12_count_0 rfl ?_
  refine gq_tabI (pc := 1) (off := 86) 87 dX12_count_1 (by decide) (by decide) (by decide) (by decide) ?_
  refine gq_aload_n (pc := 87) dX12_count_87 rfl ?_
  refine gq_rV0i (pc := 88) dX12_count_88 cv_X12_264 sh_76 (k_wornSet hV e3 hE e2) ⟨by decide, by decide⟩ rfl rfl (Nat.le_of_ble_eq_true rfl) ?_
  exact gq_iret (pc := 91) rfl dX12_count_91 ⟨rfl, rfl⟩
set_option maxHeartbeats 400000 in
theorem m_count6 {V E : Nat} (hV : V ≤ 6) (e3 : r 3 = nI V) (hE : E ≤ 8) (e2 : r 2 = nI E) : ge_N X ge_SH YX12_count 3 [.ref (ge_ad X.1 76), .int 6] (ge_m g r f) (some (.int (r 4))) (ge_m g r f) := by
  refine gq_ofB (l := [(0, .ref (ge_ad X.1 76)), (1, .int 6)]) (by decide) (Nat.le_of_ble_eq_true rfl) rfl ?_
  refine gq_iload_n (pc := 0) dX12_count_0 rfl ?_
  refine gq_tabI (pc := 1) (off := 91) 92 dX12_count_1 (by decide) (by decide) (by decide) (by decide) ?_
  refine gq_aload_n (pc := 92) dX12_count_92 rfl ?_
  refine gq_getr (pc := 93) dX12_count_93 fl_X12_7_12 sh_76 rfl ?_
  refine gq_iconst (pc := 96) dX12_count_96 kc_4 ?_
  refine qm_ald (pc := 97) dX12_count_97 kl_4 (by first | decide | omega) ?_
  exact gq_iret (pc := 98) rfl dX12_count_98 ⟨rfl, rfl⟩
set_option maxHeartbeats 400000 in
theorem m_count7 {V E : Nat} (hV : V ≤ 6) (e3 : r 3 = nI V) (hE : E ≤ 8) (e2 : r 2 = nI E) : ge_N X ge_SH YX12_count 3 [.ref (ge_ad X.1 76), .int 7] (ge_m g r f) (some (.int (r 5))) (ge_m g r f) := by
  refine gq_ofB (l := [(0, .ref (ge_ad X.1 76)), (1, .int 7)]) (by decide) (Nat.le_of_ble_eq_true rfl) rfl ?_
  refine gq_iload_n (pc := 0) dX12_count_0 rfl ?_
  refine gq_tabI (pc := 1) (off := 98) 99 dX12_count_1 (by decide) (by decide) (by decide) (by decide) ?_
  refine gq_aload_n (pc := 99) dX12_count_99 rfl ?_
  refine gq_getr (pc := 100) dX12_count_100 fl_X12_7_12 sh_76 rfl ?_
  refine gq_iconst (pc := 103) dX12_count_103 kc_5 ?_
  refine qm_ald (pc := 104) dX12_count_104 kl_5 (by first | decide | omega) ?_
  exact gq_iret (pc := 105) rfl dX12_count_105 ⟨rfl, rfl⟩
set_option maxHeartbeats 400000 in
theorem m_count8 {V E : Nat} (hV : V ≤ 6) (e3 : r 3 = nI V) (hE : E ≤ 8) (e2 : r 2 = nI E) : ge_N X ge_SH YX12_count 3 [.ref (ge_ad X.1 76), .int 8] (ge_m g r f) (some (.int (f 22))) (ge_m g r f) := by
  refine gq_ofB (l := [(0, .ref (ge_ad X.1 76)), (1, .int 8)]) (by decide) (Nat.le_of_ble_eq_true rfl) rfl ?_
  refine gq_iload_n (pc := 0) dX12_count_0 rfl ?_
  refine gq_tabI (pc := 1) (off := 105) 106 dX12_count_1 (by decide) (by decide) (by decide) (by decide) ?_
  refine gq_aload_n (pc := 106) dX12_count_106 rfl ?_
  refine qm_geti (pc := 107) dX12_count_107 fl_X12_225_12 sh_76 rfl (by decide) ?_
  exact gq_iret (pc := 110) rfl dX12_count_110 ⟨rfl, rfl⟩
set_option maxHeartbeats 400000 in
theorem m_count9 {V E : Nat} (hV : V ≤ 6) (e3 : r 3 = nI V) (hE : E ≤ 8) (e2 : r 2 = nI E) : ge_N X ge_SH YX12_count 3 [.ref (ge_ad X.1 76), .int 9] (ge_m g r f) (some (.int (r 1))) (ge_m g r f) := by
  refine gq_ofB (l := [(0, .ref (ge_ad X.1 76)), (1, .int 9)]) (by decide) (Nat.le_of_ble_eq_true rfl) rfl ?_
  refine gq_iload_n (pc := 0) dX12_count_0 rfl ?_
  refine gq_tabI (pc := 1) (off := 110) 111 dX12_count_1 (by decide) (by decide) (by decide) (by decide) ?_
  refine gq_aload_n (pc := 111) dX12_count_111 rfl ?_
  refine gq_getr (pc := 112) dX12_count_112 fl_X12_7_12 sh_76 rfl ?_
  refine gq_iconst (pc := 115) dX12_count_115 kc_1 ?_
  refine qm_ald (pc := 116) dX12_count_116 kl_1 (by first | decide | omega) ?_
  exact gq_iret (pc := 117) rfl dX12_count_117 ⟨rfl, rfl⟩
set_option maxHeartbeats 400000 in
theorem m_count_er {k : Int32} (hk : k.toInt < 0 ∨ 9 < k.toInt) : ge_N X ge_SH YX12_count 3 [.ref (ge_ad X.1 76), .int k] (ge_m g r f) (some (.int (-1000000001))) (ge_m (ge_up g 81 1 (g 81 1 + 1)) r f) := by
  refine gq_ofB (l := [(0, .ref (ge_ad X.1 76)), (1, .int k)]) (by decide) (Nat.le_of_ble_eq_true rfl) rfl ?_
  refine gq_iload_n (pc := 0) dX12_count_0 rfl ?_
  refine gq_tabO (pc := 1) 118 dX12_count_1 hk (by decide) ?_
  refine gq_aload_n (pc := 118) dX12_count_118 rfl ?_
  refine gq_ldc (pc := 119) dX12_count_119 kn_X12_53 ?_
  refine gq_rV1i (pc := 121) dX12_count_121 cv_X12_54 sh_76 (k_errs (j := 1) (by decide) (by decide)) ⟨by decide, by decide⟩ rfl rfl (Nat.le_of_ble_eq_true rfl) ?_
  exact gq_iret (pc := 124) rfl dX12_count_124 ⟨rfl, rfl⟩
end P3
section P4
variable {X : ge_X} {g : ge_G} {r x hb : Nat → Int32} {c : Nat}
set_option maxHeartbeats 400000 in
theorem c_count0 {V E : Nat} (hV : V ≤ 6) (e3 : r 3 = nI V) (hE : E ≤ 8) (e2 : r 2 = nI E) : ge_N X ge_SH YX11_count 2 [.ref (ge_ad X.1 0), .int 0] (ge_k g 25 r x hb) (some (.int (r 2))) (ge_k g 25 r x hb) := by
  refine gq_ofB (l := [(0, .ref (ge_ad X.1 0)), (1, .int 0)]) (by decide) (Nat.le_of_ble_eq_true rfl) rfl ?_
  refine gq_iload_n (pc := 0) dX11_count_0 rfl ?_
  refine gq_tabI (pc := 1) (off := 55) 56 dX11_count_1 (by decide) (by decide) (by decide) (by decide) ?_
  refine gq_aload_n (pc := 56) dX11_count_56 rfl ?_
  refine gq_getr (pc := 57) dX11_count_57 fl_X11_60_11 sh_0 rfl ?_
  refine kq_get11 (pw := 25) (pc := 60) (by decide) dX11_count_60 fl_X11_119_10 ?_
  exact gq_iret (pc := 63) rfl dX11_count_63 ⟨rfl, rfl⟩
set_option maxHeartbeats 400000 in
theorem c_count1 {V E : Nat} (hV : V ≤ 6) (e3 : r 3 = nI V) (hE : E ≤ 8) (e2 : r 2 = nI E) : ge_N X ge_SH YX11_count 2 [.ref (ge_ad X.1 0), .int 1] (ge_k g 25 r x hb) (some (.int (r 3))) (ge_k g 25 r x hb) := by
  refine gq_ofB (l := [(0, .ref (ge_ad X.1 0)), (1, .int 1)]) (by decide) (Nat.le_of_ble_eq_true rfl) rfl ?_
  refine gq_iload_n (pc := 0) dX11_count_0 rfl ?_
  refine gq_tabI (pc := 1) (off := 63) 64 dX11_count_1 (by decide) (by decide) (by decide) (by decide) ?_
  refine gq_aload_n (pc := 64) dX11_count_64 rfl ?_
  refine gq_getr (pc := 65) dX11_count_65 fl_X11_60_11 sh_0 rfl ?_
  refine kq_get12 (pw := 25) (pc := 68) (by decide) dX11_count_68 fl_X11_150_10 ?_
  exact gq_iret (pc := 71) rfl dX11_count_71 ⟨rfl, rfl⟩
set_option maxHeartbeats 400000 in
theorem c_count2 {V E : Nat} (hV : V ≤ 6) (e3 : r 3 = nI V) (hE : E ≤ 8) (e2 : r 2 = nI E) : ge_N X ge_SH YX11_count 2 [.ref (ge_ad X.1 0), .int 2] (ge_k g 25 r x hb) (some (.int (r 0))) (ge_k g 25 r x hb) := by
  refine gq_ofB (l := [(0, .ref (ge_ad X.1 0)), (1, .int 2)]) (by decide) (Nat.le_of_ble_eq_true rfl) rfl ?_
  refine gq_iload_n (pc := 0) dX11_count_0 rfl ?_
  refine gq_tabI (pc := 1) (off := 71) 72 dX11_count_1 (by decide) (by decide) (by decide) (by decide) ?_
  refine gq_aload_n (pc := 72) dX11_count_72 rfl ?_
  refine gq_getr (pc := 73) dX11_count_73 fl_X11_60_11 sh_0 rfl ?_
  refine kq_get13 (pw := 25) (pc := 76) (by decide) dX11_count_76 fl_X11_208_10 ?_
  exact gq_iret (pc := 79) rfl dX11_count_79 ⟨rfl, rfl⟩
set_option maxHeartbeats 400000 in
theorem c_count3 {V E : Nat} (hV : V ≤ 6) (e3 : r 3 = nI V) (hE : E ≤ 8) (e2 : r 2 = nI E) : ge_N X ge_SH YX11_count 2 [.ref (ge_ad X.1 0), .int 3] (ge_k g 25 r x hb) (some (.int (p_bs r V))) (ge_k g 25 r x hb) := by
  refine gq_ofB (l := [(0, .ref (ge_ad X.1 0)), (1, .int 3)]) (by decide) (Nat.le_of_ble_eq_true rfl) rfl ?_
  refine gq_iload_n (pc := 0) dX11_count_0 rfl ?_
  refine gq_tabI (pc := 1) (off := 79) 80 dX11_count_1 (by decide) (by decide) (by decide) (by decide) ?_
  refine gq_aload_n (pc := 80) dX11_count_80 rfl ?_
  refine gq_getr (pc := 81) dX11_count_81 fl_X11_60_11 sh_0 rfl ?_
  refine gq_rV0i (pc := 84) dX11_count_84 cv_X11_320 sh_25 (k_bearsW_25 hV e3) ⟨by decide, by decide⟩ rfl rfl (Nat.le_of_ble_eq_true rfl) ?_
  exact gq_iret (pc := 87) rfl dX11_count_87 ⟨rfl, rfl⟩
set_option maxHeartbeats 400000 in
theorem c_count4 {V E : Nat} (hV : V ≤ 6) (e3 : r 3 = nI V) (hE : E ≤ 8) (e2 : r 2 = nI E) : ge_N X ge_SH YX11_count 2 [.ref (ge_ad X.1 0), .int 4] (ge_k g 25 r x hb) (some (.int (p_sn r V))) (ge_k g 25 r x hb) := by
  refine gq_ofB (l := [(0, .ref (ge_ad X.1 0)), (1, .int 4)]) (by decide) (Nat.le_of_ble_eq_true rfl) rfl ?_
  refine gq_iload_n (pc := 0) dX11_count_0 rfl ?_
  refine gq_tabI (pc := 1) (off := 87) 88 dX11_count_1 (by decide) (by decide) (by decide) (by decide) ?_
  refine gq_aload_n (pc := 88) dX11_count_88 rfl ?_
  refine gq_getr (pc := 89) dX11_count_89 fl_X11_60_11 sh_0 rfl ?_
  refine gq_rV0i (pc := 92) dX11_count_92 cv_X11_259 sh_25 (k_seenW_25 hV e3) ⟨by decide, by decide⟩ rfl rfl (Nat.le_of_ble_eq_true rfl) ?_
  exact gq_iret (pc := 95) rfl dX11_count_95 ⟨rfl, rfl⟩
set_option maxHeartbeats 400000 in
theorem c_count5 {V E : Nat} (hV : V ≤ 6) (e3 : r 3 = nI V) (hE : E ≤ 8) (e2 : r 2 = nI E) : ge_N X ge_SH YX11_count 2 [.ref (ge_ad X.1 0), .int 5] (ge_k g 25 r x hb) (some (.int (p_we r V E))) (ge_k g 25 r x hb) := by
  refine gq_ofB (l := [(0, .ref (ge_ad X.1 0)), (1, .int 5)]) (by decide) (Nat.le_of_ble_eq_true rfl) rfl ?_
  refine gq_iload_n (pc := 0) dX11_count_0 rfl ?_
  refine gq_tabI (pc := 1) (off := 95) 96 dX11_count_1 (by decide) (by decide) (by decide) (by decide) ?_
  refine gq_aload_n (pc := 96) dX11_count_96 rfl ?_
  refine gq_getr (pc := 97) dX11_count_97 fl_X11_60_11 sh_0 rfl ?_
  refine gq_rV0i (pc := 100) dX11_count_100 cv_X11_323 sh_25 (k_wornE_25 hV e3 hE e2) ⟨by decide, by decide⟩ rfl rfl (Nat.le_of_ble_eq_true rfl) ?_
  exact gq_iret (pc := 103) rfl dX11_count_103 ⟨rfl, rfl⟩
set_option maxHeartbeats 400000 in
theorem c_count6 {V E : Nat} (hV : V ≤ 6) (e3 : r 3 = nI V) (hE : E ≤ 8) (e2 : r 2 = nI E) : ge_N X ge_SH YX11_count 2 [.ref (ge_ad X.1 0), .int 6] (ge_k g 25 r x hb) (some (.int (g 58 1))) (ge_k g 25 r x hb) := by
  refine gq_ofB (l := [(0, .ref (ge_ad X.1 0)), (1, .int 6)]) (by decide) (Nat.le_of_ble_eq_true rfl) rfl ?_
  refine gq_iload_n (pc := 0) dX11_count_0 rfl ?_
  refine gq_tabI (pc := 1) (off := 103) 104 dX11_count_1 (by decide) (by decide) (by decide) (by decide) ?_
  refine gq_aload_n (pc := 104) dX11_count_104 rfl ?_
  refine gq_getr (pc := 105) dX11_count_105 fl_X11_77_11 sh_0 rfl ?_
  refine kq_geto (pw := 25) (pc := 108) (by decide) dX11_count_108 fl_X11_182_7 sh_58 rfl (by unfold ge_Z; omega) ?_
  exact gq_iret (pc := 111) rfl dX11_count_111 ⟨rfl, rfl⟩
set_option maxHeartbeats 400000 in
theorem c_count7 {V E : Nat} (hV : V ≤ 6) (e3 : r 3 = nI V) (hE : E ≤ 8) (e2 : r 2 = nI E) : ge_N X ge_SH YX11_count 2 [.ref (ge_ad X.1 0), .int 7] (ge_k g 25 r x hb) (some (.int (g 62 1))) (ge_k g 25 r x hb) := by
  refine gq_ofB (l := [(0, .ref (ge_ad X.1 0)), (1, .int 7)]) (by decide) (Nat.le_of_ble_eq_true rfl) rfl ?_
  refine gq_iload_n (pc := 0) dX11_count_0 rfl ?_
  refine gq_tabI (pc := 1) (off := 111) 112 dX11_count_1 (by decide) (by decide) (by decide) (by decide) ?_
  refine gq_aload_n (pc := 112) dX11_count_112 rfl ?_
  refine gq_getr (pc := 113) dX11_count_113 fl_X11_83_11 sh_0 rfl ?_
  refine kq_geto (pw := 25) (pc := 116) (by decide) dX11_count_116 fl_X11_182_7 sh_62 rfl (by unfold ge_Z; omega) ?_
  exact gq_iret (pc := 119) rfl dX11_count_119 ⟨rfl, rfl⟩
set_option maxHeartbeats 400000 in
theorem c_count8 {V E : Nat} (hV : V ≤ 6) (e3 : r 3 = nI V) (hE : E ≤ 8) (e2 : r 2 = nI E) : ge_N X ge_SH YX11_count 2 [.ref (ge_ad X.1 0), .int 8] (ge_k g 25 r x hb) (some (.int (g 1 1))) (ge_k g 25 r x hb) := by
  refine gq_ofB (l := [(0, .ref (ge_ad X.1 0)), (1, .int 8)]) (by decide) (Nat.le_of_ble_eq_true rfl) rfl ?_
  refine gq_iload_n (pc := 0) dX11_count_0 rfl ?_
  refine gq_tabI (pc := 1) (off := 119) 120 dX11_count_1 (by decide) (by decide) (by decide) (by decide) ?_
  refine gq_aload_n (pc := 120) dX11_count_120 rfl ?_
  refine gq_getr (pc := 121) dX11_count_121 fl_X11_14_11 sh_0 rfl ?_
  refine kq_geto (pw := 25) (pc := 124) (by decide) dX11_count_124 fl_X11_182_7 sh_1 rfl (by unfold ge_Z; omega) ?_
  exact gq_iret (pc := 127) rfl dX11_count_127 ⟨rfl, rfl⟩
set_option maxHeartbeats 400000 in
theorem c_count9 {V E : Nat} (hV : V ≤ 6) (e3 : r 3 = nI V) (hE : E ≤ 8) (e2 : r 2 = nI E) : ge_N X ge_SH YX11_count 2 [.ref (ge_ad X.1 0), .int 9] (ge_k g 25 r x hb) (some (.int (r 1))) (ge_k g 25 r x hb) := by
  refine gq_ofB (l := [(0, .ref (ge_ad X.1 0)), (1, .int 9)]) (by decide) (Nat.le_of_ble_eq_true rfl) rfl ?_
  refine gq_iload_n (pc := 0) dX11_count_0 rfl ?_
  refine gq_tabI (pc := 1) (off := 127) 128 dX11_count_1 (by decide) (by decide) (by decide) (by decide) ?_
  refine gq_aload_n (pc := 128) dX11_count_128 rfl ?_
  refine gq_getr (pc := 129) dX11_count_129 fl_X11_60_11 sh_0 rfl ?_
  refine kq_get14 (pw := 25) (pc := 132) (by decide) dX11_count_132 fl_X11_278_10 ?_
  exact gq_iret (pc := 135) rfl dX11_count_135 ⟨rfl, rfl⟩
set_option maxHeartbeats 400000 in
theorem c_count_er {k : Int32} (hk : k.toInt < 0 ∨ 9 < k.toInt) : ge_N X ge_SH YX11_count 2 [.ref (ge_ad X.1 0), .int k] (ge_k g 25 r x hb) (some (.int (-1000000000 - 1))) (ge_k (ge_up g 75 1 (g 75 1 + 1)) 25 r x hb) := by
  refine gq_ofB (l := [(0, .ref (ge_ad X.1 0)), (1, .int k)]) (by decide) (Nat.le_of_ble_eq_true rfl) rfl ?_
  refine gq_iload_n (pc := 0) dX11_count_0 rfl ?_
  refine gq_tabO (pc := 1) 136 dX11_count_1 hk (by decide) ?_
  refine gq_aload_n (pc := 136) dX11_count_136 rfl ?_
  refine gq_iconst (pc := 137) dX11_count_137 kc_1 ?_
  refine gq_rV1i (pc := 138) dX11_count_138 cv_X11_109 sh_0 (c_error kl_1 (by decide)) ⟨by decide, by decide⟩ rfl rfl (Nat.le_of_ble_eq_true rfl) ?_
  exact gq_iret (pc := 141) rfl dX11_count_141 ⟨rfl, rfl⟩
end P4
