section P8
variable {X : ge_X} {g : ge_G} {r f x hb : Nat → Int32} {c : Nat}
set_option maxHeartbeats 400000 in
theorem c_sheet_er1 {s b n : Int32} (h : p_in s 0 3 = 0) : ge_N X ge_SH YX11_sheet 2 [.ref (ge_ad X.1 0), .int s, .int b, .int n] (ge_k g 25 r x hb) (some (.int (-1000000000 - 1))) (ge_k (ge_up g 75 1 (g 75 1 + 1)) 25 r x hb) := by
  refine gq_ofB (l := [(0, .ref (ge_ad X.1 0)), (1, .int s), (2, .int b), (3, .int n)]) (by decide) (Nat.le_of_ble_eq_true rfl) rfl ?_
  refine gq_iload_n (pc := 0) dX11_sheet_0 rfl ?_
  refine gq_rS1i (pc := 1) dX11_sheet_1 cs_X11_232 (c_noSheet _) ⟨by decide, by decide⟩ (Nat.le_of_ble_eq_true rfl) ?_
  refine gq_if_ne (pc := 4) 29 dX11_sheet_4 (by decide) (fun h_4 => ?_) (fun h_4 => ?_)
  · refine gq_aload_n (pc := 29) dX11_sheet_29 rfl ?_
    refine gq_iconst (pc := 30) dX11_sheet_30 kc_1 ?_
    refine gq_rV1i (pc := 31) dX11_sheet_31 cv_X11_109 sh_0 (c_error kl_1 (by decide)) ⟨by decide, by decide⟩ rfl rfl (Nat.le_of_ble_eq_true rfl) ?_
    exact gq_iret (pc := 34) rfl dX11_sheet_34 ⟨rfl, rfl⟩
  · exact absurd h (p_nt_0.mp h_4)
set_option maxHeartbeats 400000 in
theorem m_sheet_er1 {s b n : Int32} (h : p_in s 0 3 = 0) : ge_N X ge_SH YX12_sheet 2 [.ref (ge_ad X.1 76), .int s, .int b, .int n] (ge_m g r f) (some (.int (-1000000001))) (ge_m (ge_up g 81 1 (g 81 1 + 1)) r f) := by
  refine gq_ofB (l := [(0, .ref (ge_ad X.1 76)), (1, .int s), (2, .int b), (3, .int n)]) (by decide) (Nat.le_of_ble_eq_true rfl) rfl ?_
  refine gq_iload_n (pc := 0) dX12_sheet_0 rfl ?_
  refine gq_rS1i (pc := 1) dX12_sheet_1 cs_X12_203 (k_isSheet _) ⟨by decide, by decide⟩ (Nat.le_of_ble_eq_true rfl) ?_
  refine gq_if_eq (pc := 4) 29 dX12_sheet_4 (by decide) (fun h_4 => ?_) (fun h_4 => ?_)
  · refine gq_aload_n (pc := 29) dX12_sheet_29 rfl ?_
    refine gq_ldc (pc := 30) dX12_sheet_30 kn_X12_53 ?_
    refine gq_rV1i (pc := 32) dX12_sheet_32 cv_X12_54 sh_76 (k_errs (j := 1) (by decide) (by decide)) ⟨by decide, by decide⟩ rfl rfl (Nat.le_of_ble_eq_true rfl) ?_
    exact gq_iret (pc := 35) rfl dX12_sheet_35 ⟨rfl, rfl⟩
  · exact absurd h h_4
set_option maxHeartbeats 400000 in
theorem c_sheet_er2 {s b n : Int32} (h : ¬ p_in s 0 3 = 0) (b0 : ¬ b = 0) (b8 : ¬ b = 8) (b16 : ¬ b = 16) (b32 : ¬ b = 32) : ge_N X ge_SH YX11_sheet 2 [.ref (ge_ad X.1 0), .int s, .int b, .int n] (ge_k g 25 r x hb) (some (.int (-1000000000 - 1))) (ge_k (ge_up g 75 1 (g 75 1 + 1)) 25 r x hb) := by
  refine gq_ofB (l := [(0, .ref (ge_ad X.1 0)), (1, .int s), (2, .int b), (3, .int n)]) (by decide) (Nat.le_of_ble_eq_true rfl) rfl ?_
  refine gq_iload_n (pc := 0) dX11_sheet_0 rfl ?_
  refine gq_rS1i (pc := 1) dX11_sheet_1 cs_X11_232 (c_noSheet _) ⟨by decide, by decide⟩ (Nat.le_of_ble_eq_true rfl) ?_
  refine gq_if_ne (pc := 4) 29 dX11_sheet_4 (by decide) (fun h_4 => ?_) (fun h_4 => ?_)
  · exact absurd (p_nt_0.mpr h) h_4
  · refine gq_iload_n (pc := 7) dX11_sheet_7 rfl ?_
    refine gq_if_eq (pc := 8) 35 dX11_sheet_8 (by decide) (fun h_8 => ?_) (fun h_8 => ?_)
    · exact absurd h_8 b0
    · refine gq_iload_n (pc := 11) dX11_sheet_11 rfl ?_
      refine gq_bipush (pc := 12) dX11_sheet_12 kb_8 ?_
      refine gq_ic_eq (pc := 14) 35 dX11_sheet_14 (by decide) (fun h_14 => ?_) (fun h_14 => ?_)
      · exact absurd h_14 b8
      · refine gq_iload_n (pc := 17) dX11_sheet_17 rfl ?_
        refine gq_bipush (pc := 18) dX11_sheet_18 kb_16 ?_
        refine gq_ic_eq (pc := 20) 35 dX11_sheet_20 (by decide) (fun h_20 => ?_) (fun h_20 => ?_)
        · exact absurd h_20 b16
        · refine gq_iload_n (pc := 23) dX11_sheet_23 rfl ?_
          refine gq_bipush (pc := 24) dX11_sheet_24 kb_32 ?_
          refine gq_ic_eq (pc := 26) 35 dX11_sheet_26 (by decide) (fun h_26 => ?_) (fun h_26 => ?_)
          · exact absurd h_26 b32
          · refine gq_aload_n (pc := 29) dX11_sheet_29 rfl ?_
            refine gq_iconst (pc := 30) dX11_sheet_30 kc_1 ?_
            refine gq_rV1i (pc := 31) dX11_sheet_31 cv_X11_109 sh_0 (c_error kl_1 (by decide)) ⟨by decide, by decide⟩ rfl rfl (Nat.le_of_ble_eq_true rfl) ?_
            exact gq_iret (pc := 34) rfl dX11_sheet_34 ⟨rfl, rfl⟩
set_option maxHeartbeats 400000 in
theorem m_sheet_er2 {s b n : Int32} (h : ¬ p_in s 0 3 = 0) (b0 : ¬ b = 0) (b8 : ¬ b = 8) (b16 : ¬ b = 16) (b32 : ¬ b = 32) : ge_N X ge_SH YX12_sheet 2 [.ref (ge_ad X.1 76), .int s, .int b, .int n] (ge_m g r f) (some (.int (-1000000001))) (ge_m (ge_up g 81 1 (g 81 1 + 1)) r f) := by
  refine gq_ofB (l := [(0, .ref (ge_ad X.1 76)), (1, .int s), (2, .int b), (3, .int n)]) (by decide) (Nat.le_of_ble_eq_true rfl) rfl ?_
  refine gq_iload_n (pc := 0) dX12_sheet_0 rfl ?_
  refine gq_rS1i (pc := 1) dX12_sheet_1 cs_X12_203 (k_isSheet _) ⟨by decide, by decide⟩ (Nat.le_of_ble_eq_true rfl) ?_
  refine gq_if_eq (pc := 4) 29 dX12_sheet_4 (by decide) (fun h_4 => ?_) (fun h_4 => ?_)
  · exact absurd h_4 h
  · refine gq_iload_n (pc := 7) dX12_sheet_7 rfl ?_
    refine gq_if_eq (pc := 8) 36 dX12_sheet_8 (by decide) (fun h_8 => ?_) (fun h_8 => ?_)
    · exact absurd h_8 b0
    · refine gq_iload_n (pc := 11) dX12_sheet_11 rfl ?_
      refine gq_bipush (pc := 12) dX12_sheet_12 kb_8 ?_
      refine gq_ic_eq (pc := 14) 36 dX12_sheet_14 (by decide) (fun h_14 => ?_) (fun h_14 => ?_)
      · exact absurd h_14 b8
      · refine gq_iload_n (pc := 17) dX12_sheet_17 rfl ?_
        refine gq_bipush (pc := 18) dX12_sheet_18 kb_16 ?_
        refine gq_ic_eq (pc := 20) 36 dX12_sheet_20 (by decide) (fun h_20 => ?_) (fun h_20 => ?_)
        · exact absurd h_20 b16
        · refine gq_iload_n (pc := 23) dX12_sheet_23 rfl ?_
          refine gq_bipush (pc := 24) dX12_sheet_24 kb_32 ?_
          refine gq_ic_eq (pc := 26) 36 dX12_sheet_26 (by decide) (fun h_26 => ?_) (fun h_26 => ?_)
          · exact absurd h_26 b32
          · refine gq_aload_n (pc := 29) dX12_sheet_29 rfl ?_
            refine gq_ldc (pc := 30) dX12_sheet_30 kn_X12_53 ?_
            refine gq_rV1i (pc := 32) dX12_sheet_32 cv_X12_54 sh_76 (k_errs (j := 1) (by decide) (by decide)) ⟨by decide, by decide⟩ rfl rfl (Nat.le_of_ble_eq_true rfl) ?_
            exact gq_iret (pc := 35) rfl dX12_sheet_35 ⟨rfl, rfl⟩
set_option maxHeartbeats 400000 in
theorem c_sheet_st8 {s n : Int32} (h : ¬ p_in s 0 3 = 0) (hn : n < 0) : ge_N X ge_SH YX11_sheet 2 [.ref (ge_ad X.1 0), .int s, .int 8, .int n] (ge_k g 25 r x hb) (some (.int (-1000000000 - 3))) (ge_k (ge_up g 75 3 (g 75 3 + 1)) 25 r x hb) := by
  refine gq_ofB (l := [(0, .ref (ge_ad X.1 0)), (1, .int s), (2, .int 8), (3, .int n)]) (by decide) (Nat.le_of_ble_eq_true rfl) rfl ?_
  refine gq_iload_n (pc := 0) dX11_sheet_0 rfl ?_
  refine gq_rS1i (pc := 1) dX11_sheet_1 cs_X11_232 (c_noSheet _) ⟨by decide, by decide⟩ (Nat.le_of_ble_eq_true rfl) ?_
  refine gq_if_ne (pc := 4) 29 dX11_sheet_4 (by decide) (fun h_4 => ?_) (fun h_4 => ?_)
  · exact absurd (p_nt_0.mpr h) h_4
  · refine gq_iload_n (pc := 7) dX11_sheet_7 rfl ?_
    refine gq_if_eq (pc := 8) 35 dX11_sheet_8 (by decide) (fun h_8 => ?_) (fun h_8 => ?_)
    · exact absurd h_8 (by decide)
    · refine gq_iload_n (pc := 11) dX11_sheet_11 rfl ?_
      refine gq_bipush (pc := 12) dX11_sheet_12 kb_8 ?_
      refine gq_ic_eq (pc := 14) 35 dX11_sheet_14 (by decide) (fun h_14 => ?_) (fun h_14 => ?_)
      · refine gq_iload_n (pc := 35) dX11_sheet_35 rfl ?_
        refine gq_if_eq (pc := 36) 49 dX11_sheet_36 (by decide) (fun h_36 => ?_) (fun h_36 => ?_)
        · exact absurd h_36 (by decide)
        · refine gq_iload_n (pc := 39) dX11_sheet_39 rfl ?_
          refine gq_if_ge (pc := 40) 49 dX11_sheet_40 (by decide) (fun h_40 => ?_) (fun h_40 => ?_)
          · exact absurd hn (Int32.not_lt.mpr h_40)
          · refine gq_aload_n (pc := 43) dX11_sheet_43 rfl ?_
            refine gq_iconst (pc := 44) dX11_sheet_44 kc_3 ?_
            refine gq_rV1i (pc := 45) dX11_sheet_45 cv_X11_109 sh_0 (c_error kl_3 (by decide)) ⟨by decide, by decide⟩ rfl rfl (Nat.le_of_ble_eq_true rfl) ?_
            exact gq_iret (pc := 48) rfl dX11_sheet_48 ⟨rfl, rfl⟩
      · exact absurd h_14 (by decide)
set_option maxHeartbeats 400000 in
theorem m_sheet_st8 {s n : Int32} (h : ¬ p_in s 0 3 = 0) (hn : n < 0) : ge_N X ge_SH YX12_sheet 2 [.ref (ge_ad X.1 76), .int s, .int 8, .int n] (ge_m g r f) (some (.int (-1000000003))) (ge_m (ge_up g 81 3 (g 81 3 + 1)) r f) := by
  refine gq_ofB (l := [(0, .ref (ge_ad X.1 76)), (1, .int s), (2, .int 8), (3, .int n)]) (by decide) (Nat.le_of_ble_eq_true rfl) rfl ?_
  refine gq_iload_n (pc := 0) dX12_sheet_0 rfl ?_
  refine gq_rS1i (pc := 1) dX12_sheet_1 cs_X12_203 (k_isSheet _) ⟨by decide, by decide⟩ (Nat.le_of_ble_eq_true rfl) ?_
  refine gq_if_eq (pc := 4) 29 dX12_sheet_4 (by decide) (fun h_4 => ?_) (fun h_4 => ?_)
  · exact absurd h_4 h
  · refine gq_iload_n (pc := 7) dX12_sheet_7 rfl ?_
    refine gq_if_eq (pc := 8) 36 dX12_sheet_8 (by decide) (fun h_8 => ?_) (fun h_8 => ?_)
    · exact absurd h_8 (by decide)
    · refine gq_iload_n (pc := 11) dX12_sheet_11 rfl ?_
      refine gq_bipush (pc := 12) dX12_sheet_12 kb_8 ?_
      refine gq_ic_eq (pc := 14) 36 dX12_sheet_14 (by decide) (fun h_14 => ?_) (fun h_14 => ?_)
      · refine gq_iload_n (pc := 36) dX12_sheet_36 rfl ?_
        refine gq_if_eq (pc := 37) 51 dX12_sheet_37 (by decide) (fun h_37 => ?_) (fun h_37 => ?_)
        · exact absurd h_37 (by decide)
        · refine gq_iload_n (pc := 40) dX12_sheet_40 rfl ?_
          refine gq_if_ge (pc := 41) 51 dX12_sheet_41 (by decide) (fun h_41 => ?_) (fun h_41 => ?_)
          · exact absurd hn (Int32.not_lt.mpr h_41)
          · refine gq_aload_n (pc := 44) dX12_sheet_44 rfl ?_
            refine gq_ldc (pc := 45) dX12_sheet_45 kn_X12_194 ?_
            refine gq_rV1i (pc := 47) dX12_sheet_47 cv_X12_54 sh_76 (k_errs (j := 3) (by decide) (by decide)) ⟨by decide, by decide⟩ rfl rfl (Nat.le_of_ble_eq_true rfl) ?_
            exact gq_iret (pc := 50) rfl dX12_sheet_50 ⟨rfl, rfl⟩
      · exact absurd h_14 (by decide)
set_option maxHeartbeats 400000 in
theorem c_sheet_er38 {s n : Int32} (h : ¬ p_in s 0 3 = 0) (hn : ¬ n < 0) (h40 : ¬ n ≤ 40) : ge_N X ge_SH YX11_sheet 2 [.ref (ge_ad X.1 0), .int s, .int 8, .int n] (ge_k g 25 r x hb) (some (.int (-1000000000 - 1))) (ge_k (ge_up g 75 1 (g 75 1 + 1)) 25 r x hb) := by
  refine gq_ofB (l := [(0, .ref (ge_ad X.1 0)), (1, .int s), (2, .int 8), (3, .int n)]) (by decide) (Nat.le_of_ble_eq_true rfl) rfl ?_
  refine gq_iload_n (pc := 0) dX11_sheet_0 rfl ?_
  refine gq_rS1i (pc := 1) dX11_sheet_1 cs_X11_232 (c_noSheet _) ⟨by decide, by decide⟩ (Nat.le_of_ble_eq_true rfl) ?_
  refine gq_if_ne (pc := 4) 29 dX11_sheet_4 (by decide) (fun h_4 => ?_) (fun h_4 => ?_)
  · exact absurd (p_nt_0.mpr h) h_4
  · refine gq_iload_n (pc := 7) dX11_sheet_7 rfl ?_
    refine gq_if_eq (pc := 8) 35 dX11_sheet_8 (by decide) (fun h_8 => ?_) (fun h_8 => ?_)
    · exact absurd h_8 (by decide)
    · refine gq_iload_n (pc := 11) dX11_sheet_11 rfl ?_
      refine gq_bipush (pc := 12) dX11_sheet_12 kb_8 ?_
      refine gq_ic_eq (pc := 14) 35 dX11_sheet_14 (by decide) (fun h_14 => ?_) (fun h_14 => ?_)
      · refine gq_iload_n (pc := 35) dX11_sheet_35 rfl ?_
        refine gq_if_eq (pc := 36) 49 dX11_sheet_36 (by decide) (fun h_36 => ?_) (fun h_36 => ?_)
        · exact absurd h_36 (by decide)
        · refine gq_iload_n (pc := 39) dX11_sheet_39 rfl ?_
          refine gq_if_ge (pc := 40) 49 dX11_sheet_40 (by decide) (fun h_40 => ?_) (fun h_40 => ?_)
          · refine gq_iload_n (pc := 49) dX11_sheet_49 rfl ?_
            refine gq_if_eq (pc := 50) 65 dX11_sheet_50 (by decide) (fun h_50 => ?_) (fun h_50 => ?_)
            · exact absurd h_50 (by decide)
            · refine gq_iload_n (pc := 53) dX11_sheet_53 rfl ?_
              refine gq_bipush (pc := 54) dX11_sheet_54 kb_40 ?_
              refine gq_ic_le (pc := 56) 65 dX11_sheet_56 (by decide) (fun h_56 => ?_) (fun h_56 => ?_)
              · exact absurd h_56 h40
              · refine gq_aload_n (pc := 59) dX11_sheet_59 rfl ?_
                refine gq_iconst (pc := 60) dX11_sheet_60 kc_1 ?_
                refine gq_rV1i (pc := 61) dX11_sheet_61 cv_X11_109 sh_0 (c_error kl_1 (by decide)) ⟨by decide, by decide⟩ rfl rfl (Nat.le_of_ble_eq_true rfl) ?_
                exact gq_iret (pc := 64) rfl dX11_sheet_64 ⟨rfl, rfl⟩
          · exact absurd (Int32.not_lt.mp hn) h_40
      · exact absurd h_14 (by decide)
set_option maxHeartbeats 400000 in
theorem m_sheet_er38 {s n : Int32} (h : ¬ p_in s 0 3 = 0) (hn : ¬ n < 0) (h40 : ¬ n ≤ 40) : ge_N X ge_SH YX12_sheet 2 [.ref (ge_ad X.1 76), .int s, .int 8, .int n] (ge_m g r f) (some (.int (-1000000001))) (ge_m (ge_up g 81 1 (g 81 1 + 1)) r f) := by
  refine gq_ofB (l := [(0, .ref (ge_ad X.1 76)), (1, .int s), (2, .int 8), (3, .int n)]) (by decide) (Nat.le_of_ble_eq_true rfl) rfl ?_
  refine gq_iload_n (pc := 0) dX12_sheet_0 rfl ?_
  refine gq_rS1i (pc := 1) dX12_sheet_1 cs_X12_203 (k_isSheet _) ⟨by decide, by decide⟩ (Nat.le_of_ble_eq_true rfl) ?_
  refine gq_if_eq (pc := 4) 29 dX12_sheet_4 (by decide) (fun h_4 => ?_) (fun h_4 => ?_)
  · exact absurd h_4 h
  · refine gq_iload_n (pc := 7) dX12_sheet_7 rfl ?_
    refine gq_if_eq (pc := 8) 36 dX12_sheet_8 (by decide) (fun h_8 => ?_) (fun h_8 => ?_)
    · exact absurd h_8 (by decide)
    · refine gq_iload_n (pc := 11) dX12_sheet_11 rfl ?_
      refine gq_bipush (pc := 12) dX12_sheet_12 kb_8 ?_
      refine gq_ic_eq (pc := 14) 36 dX12_sheet_14 (by decide) (fun h_14 => ?_) (fun h_14 => ?_)
      · refine gq_iload_n (pc := 36) dX12_sheet_36 rfl ?_
        refine gq_if_eq (pc := 37) 51 dX12_sheet_37 (by decide) (fun h_37 => ?_) (fun h_37 => ?_)
        · exact absurd h_37 (by decide)
        · refine gq_iload_n (pc := 40) dX12_sheet_40 rfl ?_
          refine gq_if_ge (pc := 41) 51 dX12_sheet_41 (by decide) (fun h_41 => ?_) (fun h_41 => ?_)
          · refine gq_iload_n (pc := 51) dX12_sheet_51 rfl ?_
            refine gq_if_eq (pc := 52) 68 dX12_sheet_52 (by decide) (fun h_52 => ?_) (fun h_52 => ?_)
            · exact absurd h_52 (by decide)
            · refine gq_iload_n (pc := 55) dX12_sheet_55 rfl ?_
              refine gq_bipush (pc := 56) dX12_sheet_56 kb_40 ?_
              refine gq_ic_le (pc := 58) 68 dX12_sheet_58 (by decide) (fun h_58 => ?_) (fun h_58 => ?_)
              · exact absurd h_58 h40
              · refine gq_aload_n (pc := 61) dX12_sheet_61 rfl ?_
                refine gq_ldc (pc := 62) dX12_sheet_62 kn_X12_53 ?_
                refine gq_rV1i (pc := 64) dX12_sheet_64 cv_X12_54 sh_76 (k_errs (j := 1) (by decide) (by decide)) ⟨by decide, by decide⟩ rfl rfl (Nat.le_of_ble_eq_true rfl) ?_
                exact gq_iret (pc := 67) rfl dX12_sheet_67 ⟨rfl, rfl⟩
          · exact absurd (Int32.not_lt.mp hn) h_41
      · exact absurd h_14 (by decide)
set_option maxHeartbeats 400000 in
theorem c_sheet_st16 {s n : Int32} (h : ¬ p_in s 0 3 = 0) (hn : n < 0) : ge_N X ge_SH YX11_sheet 2 [.ref (ge_ad X.1 0), .int s, .int 16, .int n] (ge_k g 25 r x hb) (some (.int (-1000000000 - 3))) (ge_k (ge_up g 75 3 (g 75 3 + 1)) 25 r x hb) := by
  refine gq_ofB (l := [(0, .ref (ge_ad X.1 0)), (1, .int s), (2, .int 16), (3, .int n)]) (by decide) (Nat.le_of_ble_eq_true rfl) rfl ?_
  refine gq_iload_n (pc := 0) dX11_sheet_0 rfl ?_
  refine gq_rS1i (pc := 1) dX11_sheet_1 cs_X11_232 (c_noSheet _) ⟨by decide, by decide⟩ (Nat.le_of_ble_eq_true rfl) ?_
  refine gq_if_ne (pc := 4) 29 dX11_sheet_4 (by decide) (fun h_4 => ?_) (fun h_4 => ?_)
  · exact absurd (p_nt_0.mpr h) h_4
  · refine gq_iload_n (pc := 7) dX11_sheet_7 rfl ?_
    refine gq_if_eq (pc := 8) 35 dX11_sheet_8 (by decide) (fun h_8 => ?_) (fun h_8 => ?_)
    · exact absurd h_8 (by decide)
    · refine gq_iload_n (pc := 11) dX11_sheet_11 rfl ?_
      refine gq_bipush (pc := 12) dX11_sheet_12 kb_8 ?_
      refine gq_ic_eq (pc := 14) 35 dX11_sheet_14 (by decide) (fun h_14 => ?_) (fun h_14 => ?_)
      · exact absurd h_14 (by decide)
      · refine gq_iload_n (pc := 17) dX11_sheet_17 rfl ?_
        refine gq_bipush (pc := 18) dX11_sheet_18 kb_16 ?_
        refine gq_ic_eq (pc := 20) 35 dX11_sheet_20 (by decide) (fun h_20 => ?_) (fun h_20 => ?_)
        · refine gq_iload_n (pc := 35) dX11_sheet_35 rfl ?_
          refine gq_if_eq (pc := 36) 49 dX11_sheet_36 (by decide) (fun h_36 => ?_) (fun h_36 => ?_)
          · exact absurd h_36 (by decide)
          · refine gq_iload_n (pc := 39) dX11_sheet_39 rfl ?_
            refine gq_if_ge (pc := 40) 49 dX11_sheet_40 (by decide) (fun h_40 => ?_) (fun h_40 => ?_)
            · exact absurd hn (Int32.not_lt.mpr h_40)
            · refine gq_aload_n (pc := 43) dX11_sheet_43 rfl ?_
              refine gq_iconst (pc := 44) dX11_sheet_44 kc_3 ?_
              refine gq_rV1i (pc := 45) dX11_sheet_45 cv_X11_109 sh_0 (c_error kl_3 (by decide)) ⟨by decide, by decide⟩ rfl rfl (Nat.le_of_ble_eq_true rfl) ?_
              exact gq_iret (pc := 48) rfl dX11_sheet_48 ⟨rfl, rfl⟩
        · exact absurd h_20 (by decide)
set_option maxHeartbeats 400000 in
theorem m_sheet_st16 {s n : Int32} (h : ¬ p_in s 0 3 = 0) (hn : n < 0) : ge_N X ge_SH YX12_sheet 2 [.ref (ge_ad X.1 76), .int s, .int 16, .int n] (ge_m g r f) (some (.int (-1000000003))) (ge_m (ge_up g 81 3 (g 81 3 + 1)) r f) := by
  refine gq_ofB (l := [(0, .ref (ge_ad X.1 76)), (1, .int s), (2, .int 16), (3, .int n)]) (by decide) (Nat.le_of_ble_eq_true rfl) rfl ?_
  refine gq_iload_n (pc := 0) dX12_sheet_0 rfl ?_
  refine gq_rS1i (pc := 1) dX12_sheet_1 cs_X12_203 (k_isSheet _) ⟨by decide, by decide⟩ (Nat.le_of_ble_eq_true rfl) ?_
  refine gq_if_eq (pc := 4) 29 dX12_sheet_4 (by decide) (fun h_4 => ?_) (fun h_4 => ?_)
  · exact absurd h_4 h
  · refine gq_iload_n (pc := 7) dX12_sheet_7 rfl ?_
    refine gq_if_eq (pc := 8) 36 dX12_sheet_8 (by decide) (fun h_8 => ?_) (fun h_8 => ?_)
    · exact absurd h_8 (by decide)
    · refine gq_iload_n (pc := 11) dX12_sheet_11 rfl ?_
      refine gq_bipush (pc := 12) dX12_sheet_12 kb_8 ?_
      refine gq_ic_eq (pc := 14) 36 dX12_sheet_14 (by decide) (fun h_14 => ?_) (fun h_14 => ?_)
      · exact absurd h_14 (by decide)
      · refine gq_iload_n (pc := 17) dX12_sheet_17 rfl ?_
        refine gq_bipush (pc := 18) dX12_sheet_18 kb_16 ?_
        refine gq_ic_eq (pc := 20) 36 dX12_sheet_20 (by decide) (fun h_20 => ?_) (fun h_20 => ?_)
        · refine gq_iload_n (pc := 36) dX12_sheet_36 rfl ?_
          refine gq_if_eq (pc := 37) 51 dX12_sheet_37 (by decide) (fun h_37 => ?_) (fun h_37 => ?_)
          · exact absurd h_37 (by decide)
          · refine gq_iload_n (pc := 40) dX12_sheet_40 rfl ?_
            refine gq_if_ge (pc := 41) 51 dX12_sheet_41 (by decide) (fun h_41 => ?_) (fun h_41 => ?_)
            · exact absurd hn (Int32.not_lt.mpr h_41)
            · refine gq_aload_n (pc := 44) dX12_sheet_44 rfl ?_
              refine gq_ldc (pc := 45) dX12_sheet_45 kn_X12_194 ?_
              refine gq_rV1i (pc := 47) dX12_sheet_47 cv_X12_54 sh_76 (k_errs (j := 3) (by decide) (by decide)) ⟨by decide, by decide⟩ rfl rfl (Nat.le_of_ble_eq_true rfl) ?_
              exact gq_iret (pc := 50) rfl dX12_sheet_50 ⟨rfl, rfl⟩
        · exact absurd h_20 (by decide)
set_option maxHeartbeats 400000 in
theorem c_sheet_er316 {s n : Int32} (h : ¬ p_in s 0 3 = 0) (hn : ¬ n < 0) (h40 : ¬ n ≤ 40) : ge_N X ge_SH YX11_sheet 2 [.ref (ge_ad X.1 0), .int s, .int 16, .int n] (ge_k g 25 r x hb) (some (.int (-1000000000 - 1))) (ge_k (ge_up g 75 1 (g 75 1 + 1)) 25 r x hb) := by
  refine gq_ofB (l := [(0, .ref (ge_ad X.1 0)), (1, .int s), (2, .int 16), (3, .int n)]) (by decide) (Nat.le_of_ble_eq_true rfl) rfl ?_
  refine gq_iload_n (pc := 0) dX11_sheet_0 rfl ?_
  refine gq_rS1i (pc := 1) dX11_sheet_1 cs_X11_232 (c_noSheet _) ⟨by decide, by decide⟩ (Nat.le_of_ble_eq_true rfl) ?_
  refine gq_if_ne (pc := 4) 29 dX11_sheet_4 (by decide) (fun h_4 => ?_) (fun h_4 => ?_)
  · exact absurd (p_nt_0.mpr h) h_4
  · refine gq_iload_n (pc := 7) dX11_sheet_7 rfl ?_
    refine gq_if_eq (pc := 8) 35 dX11_sheet_8 (by decide) (fun h_8 => ?_) (fun h_8 => ?_)
    · exact absurd h_8 (by decide)
    · refine gq_iload_n (pc := 11) dX11_sheet_11 rfl ?_
      refine gq_bipush (pc := 12) dX11_sheet_12 kb_8 ?_
      refine gq_ic_eq (pc := 14) 35 dX11_sheet_14 (by decide) (fun h_14 => ?_) (fun h_14 => ?_)
      · exact absurd h_14 (by decide)
      · refine gq_iload_n (pc := 17) dX11_sheet_17 rfl ?_
        refine gq_bipush (pc := 18) dX11_sheet_18 kb_16 ?_
        refine gq_ic_eq (pc := 20) 35 dX11_sheet_20 (by decide) (fun h_20 => ?_) (fun h_20 => ?_)
        · refine gq_iload_n (pc := 35) dX11_sheet_35 rfl ?_
          refine gq_if_eq (pc := 36) 49 dX11_sheet_36 (by decide) (fun h_36 => ?_) (fun h_36 => ?_)
          · exact absurd h_36 (by decide)
          · refine gq_iload_n (pc := 39) dX11_sheet_39 rfl ?_
            refine gq_if_ge (pc := 40) 49 dX11_sheet_40 (by decide) (fun h_40 => ?_) (fun h_40 => ?_)
            · refine gq_iload_n (pc := 49) dX11_sheet_49 rfl ?_
              refine gq_if_eq (pc := 50) 65 dX11_sheet_50 (by decide) (fun h_50 => ?_) (fun h_50 => ?_)
              · exact absurd h_50 (by decide)
              · refine gq_iload_n (pc := 53) dX11_sheet_53 rfl ?_
                refine gq_bipush (pc := 54) dX11_sheet_54 kb_40 ?_
                refine gq_ic_le (pc := 56) 65 dX11_sheet_56 (by decide) (fun h_56 => ?_) (fun h_56 => ?_)
                · exact absurd h_56 h40
                · refine gq_aload_n (pc := 59) dX11_sheet_59 rfl ?_
                  refine gq_iconst (pc := 60) dX11_sheet_60 kc_1 ?_
                  refine gq_rV1i (pc := 61) dX11_sheet_61 cv_X11_109 sh_0 (c_error kl_1 (by decide)) ⟨by decide, by decide⟩ rfl rfl (Nat.le_of_ble_eq_true rfl) ?_
                  exact gq_iret (pc := 64) rfl dX11_sheet_64 ⟨rfl, rfl⟩
            · exact absurd (Int32.not_lt.mp hn) h_40
        · exact absurd h_20 (by decide)
set_option maxHeartbeats 400000 in
theorem m_sheet_er316 {s n : Int32} (h : ¬ p_in s 0 3 = 0) (hn : ¬ n < 0) (h40 : ¬ n ≤ 40) : ge_N X ge_SH YX12_sheet 2 [.ref (ge_ad X.1 76), .int s, .int 16, .int n] (ge_m g r f) (some (.int (-1000000001))) (ge_m (ge_up g 81 1 (g 81 1 + 1)) r f) := by
  refine gq_ofB (l := [(0, .ref (ge_ad X.1 76)), (1, .int s), (2, .int 16), (3, .int n)]) (by decide) (Nat.le_of_ble_eq_true rfl) rfl ?_
  refine gq_iload_n (pc := 0) dX12_sheet_0 rfl ?_
  refine gq_rS1i (pc := 1) dX12_sheet_1 cs_X12_203 (k_isSheet _) ⟨by decide, by decide⟩ (Nat.le_of_ble_eq_true rfl) ?_
  refine gq_if_eq (pc := 4) 29 dX12_sheet_4 (by decide) (fun h_4 => ?_) (fun h_4 => ?_)
  · exact absurd h_4 h
  · refine gq_iload_n (pc := 7) dX12_sheet_7 rfl ?_
    refine gq_if_eq (pc := 8) 36 dX12_sheet_8 (by decide) (fun h_8 => ?_) (fun h_8 => ?_)
    · exact absurd h_8 (by decide)
    · refine gq_iload_n (pc := 11) dX12_sheet_11 rfl ?_
      refine gq_bipush (pc := 12) dX12_sheet_12 kb_8 ?_
      refine gq_ic_eq (pc := 14) 36 dX12_sheet_14 (by decide) (fun h_14 => ?_) (fun h_14 => ?_)
      · exact absurd h_14 (by decide)
      · refine gq_iload_n (pc := 17) dX12_sheet_17 rfl ?_
        refine gq_bipush (pc := 18) dX12_sheet_18 kb_16 ?_
        refine gq_ic_eq (pc := 20) 36 dX12_sheet_20 (by decide) (fun h_20 => ?_) (fun h_20 => ?_)
        · refine gq_iload_n (pc := 36) dX12_sheet_36 rfl ?_
          refine gq_if_eq (pc := 37) 51 dX12_sheet_37 (by decide) (fun h_37 => ?_) (fun h_37 => ?_)
          · exact absurd h_37 (by decide)
          · refine gq_iload_n (pc := 40) dX12_sheet_40 rfl ?_
            refine gq_if_ge (pc := 41) 51 dX12_sheet_41 (by decide) (fun h_41 => ?_) (fun h_41 => ?_)
            · refine gq_iload_n (pc := 51) dX12_sheet_51 rfl ?_
              refine gq_if_eq (pc := 52) 68 dX12_sheet_52 (by decide) (fun h_52 => ?_) (fun h_52 => ?_)
              · exact absurd h_52 (by decide)
              · refine gq_iload_n (pc := 55) dX12_sheet_55 rfl ?_
                refine gq_bipush (pc := 56) dX12_sheet_56 kb_40 ?_
                refine gq_ic_le (pc := 58) 68 dX12_sheet_58 (by decide) (fun h_58 => ?_) (fun h_58 => ?_)
                · exact absurd h_58 h40
                · refine gq_aload_n (pc := 61) dX12_sheet_61 rfl ?_
                  refine gq_ldc (pc := 62) dX12_sheet_62 kn_X12_53 ?_
                  refine gq_rV1i (pc := 64) dX12_sheet_64 cv_X12_54 sh_76 (k_errs (j := 1) (by decide) (by decide)) ⟨by decide, by decide⟩ rfl rfl (Nat.le_of_ble_eq_true rfl) ?_
                  exact gq_iret (pc := 67) rfl dX12_sheet_67 ⟨rfl, rfl⟩
            · exact absurd (Int32.not_lt.mp hn) h_41
        · exact absurd h_20 (by decide)
set_option maxHeartbeats 400000 in
theorem c_sheet_st32 {s n : Int32} (h : ¬ p_in s 0 3 = 0) (hn : n < 0) : ge_N X ge_SH YX11_sheet 2 [.ref (ge_ad X.1 0), .int s, .int 32, .int n] (ge_k g 25 r x hb) (some (.int (-1000000000 - 3))) (ge_k (ge_up g 75 3 (g 75 3 + 1)) 25 r x hb) := by
  refine gq_ofB (l := [(0, .ref (ge_ad X.1 0)), (1, .int s), (2, .int 32), (3, .int n)]) (by decide) (Nat.le_of_ble_eq_true rfl) rfl ?_
  refine gq_iload_n (pc := 0) dX11_sheet_0 rfl ?_
  refine gq_rS1i (pc := 1) dX11_sheet_1 cs_X11_232 (c_noSheet _) ⟨by decide, by decide⟩ (Nat.le_of_ble_eq_true rfl) ?_
  refine gq_if_ne (pc := 4) 29 dX11_sheet_4 (by decide) (fun h_4 => ?_) (fun h_4 => ?_)
  · exact absurd (p_nt_0.mpr h) h_4
  · refine gq_iload_n (pc := 7) dX11_sheet_7 rfl ?_
    refine gq_if_eq (pc := 8) 35 dX11_sheet_8 (by decide) (fun h_8 => ?_) (fun h_8 => ?_)
    · exact absurd h_8 (by decide)
    · refine gq_iload_n (pc := 11) dX11_sheet_11 rfl ?_
      refine gq_bipush (pc := 12) dX11_sheet_12 kb_8 ?_
      refine gq_ic_eq (pc := 14) 35 dX11_sheet_14 (by decide) (fun h_14 => ?_) (fun h_14 => ?_)
      · exact absurd h_14 (by decide)
      · refine gq_iload_n (pc := 17) dX11_sheet_17 rfl ?_
        refine gq_bipush (pc := 18) dX11_sheet_18 kb_16 ?_
        refine gq_ic_eq (pc := 20) 35 dX11_sheet_20 (by decide) (fun h_20 => ?_) (fun h_20 => ?_)
        · exact absurd h_20 (by decide)
        · refine gq_iload_n (pc := 23) dX11_sheet_23 rfl ?_
          refine gq_bipush (pc := 24) dX11_sheet_24 kb_32 ?_
          refine gq_ic_eq (pc := 26) 35 dX11_sheet_26 (by decide) (fun h_26 => ?_) (fun h_26 => ?_)
          · refine gq_iload_n (pc := 35) dX11_sheet_35 rfl ?_
            refine gq_if_eq (pc := 36) 49 dX11_sheet_36 (by decide) (fun h_36 => ?_) (fun h_36 => ?_)
            · exact absurd h_36 (by decide)
            · refine gq_iload_n (pc := 39) dX11_sheet_39 rfl ?_
              refine gq_if_ge (pc := 40) 49 dX11_sheet_40 (by decide) (fun h_40 => ?_) (fun h_40 => ?_)
              · exact absurd hn (Int32.not_lt.mpr h_40)
              · refine gq_aload_n (pc := 43) dX11_sheet_43 rfl ?_
                refine gq_iconst (pc := 44) dX11_sheet_44 kc_3 ?_
                refine gq_rV1i (pc := 45) dX11_sheet_45 cv_X11_109 sh_0 (c_error kl_3 (by decide)) ⟨by decide, by decide⟩ rfl rfl (Nat.le_of_ble_eq_true rfl) ?_
                exact gq_iret (pc := 48) rfl dX11_sheet_48 ⟨rfl, rfl⟩
          · exact absurd h_26 (by decide)
set_option maxHeartbeats 400000 in
theorem m_sheet_st32 {s n : Int32} (h : ¬ p_in s 0 3 = 0) (hn : n < 0) : ge_N X ge_SH YX12_sheet 2 [.ref (ge_ad X.1 76), .int s, .int 32, .int n] (ge_m g r f) (some (.int (-1000000003))) (ge_m (ge_up g 81 3 (g 81 3 + 1)) r f) := by
  refine gq_ofB (l := [(0, .ref (ge_ad X.1 76)), (1, .int s), (2, .int 32), (3, .int n)]) (by decide) (Nat.le_of_ble_eq_true rfl) rfl ?_
  refine gq_iload_n (pc := 0) dX12_sheet_0 rfl ?_
  refine gq_rS1i (pc := 1) dX12_sheet_1 cs_X12_203 (k_isSheet _) ⟨by decide, by decide⟩ (Nat.le_of_ble_eq_true rfl) ?_
  refine gq_if_eq (pc := 4) 29 dX12_sheet_4 (by decide) (fun h_4 => ?_) (fun h_4 => ?_)
  · exact absurd h_4 h
  · refine gq_iload_n (pc := 7) dX12_sheet_7 rfl ?_
    refine gq_if_eq (pc := 8) 36 dX12_sheet_8 (by decide) (fun h_8 => ?_) (fun h_8 => ?_)
    · exact absurd h_8 (by decide)
    · refine gq_iload_n (pc := 11) dX12_sheet_11 rfl ?_
      refine gq_bipush (pc := 12) dX12_sheet_12 kb_8 ?_
      refine gq_ic_eq (pc := 14) 36 dX12_sheet_14 (by decide) (fun h_14 => ?_) (fun h_14 => ?_)
      · exact absurd h_14 (by decide)
      · refine gq_iload_n (pc := 17) dX12_sheet_17 rfl ?_
        refine gq_bipush (pc := 18) dX12_sheet_18 kb_16 ?_
        refine gq_ic_eq (pc := 20) 36 dX12_sheet_20 (by decide) (fun h_20 => ?_) (fun h_20 => ?_)
        · exact absurd h_20 (by decide)
        · refine gq_iload_n (pc := 23) dX12_sheet_23 rfl ?_
          refine gq_bipush (pc := 24) dX12_sheet_24 kb_32 ?_
          refine gq_ic_eq (pc := 26) 36 dX12_sheet_26 (by decide) (fun h_26 => ?_) (fun h_26 => ?_)
          · refine gq_iload_n (pc := 36) dX12_sheet_36 rfl ?_
            refine gq_if_eq (pc := 37) 51 dX12_sheet_37 (by decide) (fun h_37 => ?_) (fun h_37 => ?_)
            · exact absurd h_37 (by decide)
            · refine gq_iload_n (pc := 40) dX12_sheet_40 rfl ?_
              refine gq_if_ge (pc := 41) 51 dX12_sheet_41 (by decide) (fun h_41 => ?_) (fun h_41 => ?_)
              · exact absurd hn (Int32.not_lt.mpr h_41)
              · refine gq_aload_n (pc := 44) dX12_sheet_44 rfl ?_
                refine gq_ldc (pc := 45) dX12_sheet_45 kn_X12_194 ?_
                refine gq_rV1i (pc := 47) dX12_sheet_47 cv_X12_54 sh_76 (k_errs (j := 3) (by decide) (by decide)) ⟨by decide, by decide⟩ rfl rfl (Nat.le_of_ble_eq_true rfl) ?_
                exact gq_iret (pc := 50) rfl dX12_sheet_50 ⟨rfl, rfl⟩
          · exact absurd h_26 (by decide)
set_option maxHeartbeats 400000 in
theorem c_sheet_er332 {s n : Int32} (h : ¬ p_in s 0 3 = 0) (hn : ¬ n < 0) (h40 : ¬ n ≤ 40) : ge_N X ge_SH YX11_sheet 2 [.ref (ge_ad X.1 0), .int s, .int 32, .int n] (ge_k g 25 r x hb) (some (.int (-1000000000 - 1))) (ge_k (ge_up g 75 1 (g 75 1 + 1)) 25 r x hb) := by
  refine gq_ofB (l := [(0, .ref (ge_ad X.1 0)), (1, .int s), (2, .int 32), (3, .int n)]) (by decide) (Nat.le_of_ble_eq_true rfl) rfl ?_
  refine gq_iload_n (pc := 0) dX11_sheet_0 rfl ?_
  refine gq_rS1i (pc := 1) dX11_sheet_1 cs_X11_232 (c_noSheet _) ⟨by decide, by decide⟩ (Nat.le_of_ble_eq_true rfl) ?_
  refine gq_if_ne (pc := 4) 29 dX11_sheet_4 (by decide) (fun h_4 => ?_) (fun h_4 => ?_)
  · exact absurd (p_nt_0.mpr h) h_4
  · refine gq_iload_n (pc := 7) dX11_sheet_7 rfl ?_
    refine gq_if_eq (pc := 8) 35 dX11_sheet_8 (by decide) (fun h_8 => ?_) (fun h_8 => ?_)
    · exact absurd h_8 (by decide)
    · refine gq_iload_n (pc := 11) dX11_sheet_11 rfl ?_
      refine gq_bipush (pc := 12) dX11_sheet_12 kb_8 ?_
      refine gq_ic_eq (pc := 14) 35 dX11_sheet_14 (by decide) (fun h_14 => ?_) (fun h_14 => ?_)
      · exact absurd h_14 (by decide)
      · refine gq_iload_n (pc := 17) dX11_sheet_17 rfl ?_
        refine gq_bipush (pc := 18) dX11_sheet_18 kb_16 ?_
        refine gq_ic_eq (pc := 20) 35 dX11_sheet_20 (by decide) (fun h_20 => ?_) (fun h_20 => ?_)
        · exact absurd h_20 (by decide)
        · refine gq_iload_n (pc := 23) dX11_sheet_23 rfl ?_
          refine gq_bipush (pc := 24) dX11_sheet_24 kb_32 ?_
          refine gq_ic_eq (pc := 26) 35 dX11_sheet_26 (by decide) (fun h_26 => ?_) (fun h_26 => ?_)
          · refine gq_iload_n (pc := 35) dX11_sheet_35 rfl ?_
            refine gq_if_eq (pc := 36) 49 dX11_sheet_36 (by decide) (fun h_36 => ?_) (fun h_36 => ?_)
            · exact absurd h_36 (by decide)
            · refine gq_iload_n (pc := 39) dX11_sheet_39 rfl ?_
              refine gq_if_ge (pc := 40) 49 dX11_sheet_40 (by decide) (fun h_40 => ?_) (fun h_40 => ?_)
              · refine gq_iload_n (pc := 49) dX11_sheet_49 rfl ?_
                refine gq_if_eq (pc := 50) 65 dX11_sheet_50 (by decide) (fun h_50 => ?_) (fun h_50 => ?_)
                · exact absurd h_50 (by decide)
                · refine gq_iload_n (pc := 53) dX11_sheet_53 rfl ?_
                  refine gq_bipush (pc := 54) dX11_sheet_54 kb_40 ?_
                  refine gq_ic_le (pc := 56) 65 dX11_sheet_56 (by decide) (fun h_56 => ?_) (fun h_56 => ?_)
                  · exact absurd h_56 h40
                  · refine gq_aload_n (pc := 59) dX11_sheet_59 rfl ?_
                    refine gq_iconst (pc := 60) dX11_sheet_60 kc_1 ?_
                    refine gq_rV1i (pc := 61) dX11_sheet_61 cv_X11_109 sh_0 (c_error kl_1 (by decide)) ⟨by decide, by decide⟩ rfl rfl (Nat.le_of_ble_eq_true rfl) ?_
                    exact gq_iret (pc := 64) rfl dX11_sheet_64 ⟨rfl, rfl⟩
              · exact absurd (Int32.not_lt.mp hn) h_40
          · exact absurd h_26 (by decide)
set_option maxHeartbeats 400000 in
theorem m_sheet_er332 {s n : Int32} (h : ¬ p_in s 0 3 = 0) (hn : ¬ n < 0) (h40 : ¬ n ≤ 40) : ge_N X ge_SH YX12_sheet 2 [.ref (ge_ad X.1 76), .int s, .int 32, .int n] (ge_m g r f) (some (.int (-1000000001))) (ge_m (ge_up g 81 1 (g 81 1 + 1)) r f) := by
  refine gq_ofB (l := [(0, .ref (ge_ad X.1 76)), (1, .int s), (2, .int 32), (3, .int n)]) (by decide) (Nat.le_of_ble_eq_true rfl) rfl ?_
  refine gq_iload_n (pc := 0) dX12_sheet_0 rfl ?_
  refine gq_rS1i (pc := 1) dX12_sheet_1 cs_X12_203 (k_isSheet _) ⟨by decide, by decide⟩ (Nat.le_of_ble_eq_true rfl) ?_
  refine gq_if_eq (pc := 4) 29 dX12_sheet_4 (by decide) (fun h_4 => ?_) (fun h_4 => ?_)
  · exact absurd h_4 h
  · refine gq_iload_n (pc := 7) dX12_sheet_7 rfl ?_
    refine gq_if_eq (pc := 8) 36 dX12_sheet_8 (by decide) (fun h_8 => ?_) (fun h_8 => ?_)
    · exact absurd h_8 (by decide)
    · refine gq_iload_n (pc := 11) dX12_sheet_11 rfl ?_
      refine gq_bipush (pc := 12) dX12_sheet_12 kb_8 ?_
      refine gq_ic_eq (pc := 14) 36 dX12_sheet_14 (by decide) (fun h_14 => ?_) (fun h_14 => ?_)
      · exact absurd h_14 (by decide)
      · refine gq_iload_n (pc := 17) dX12_sheet_17 rfl ?_
        refine gq_bipush (pc := 18) dX12_sheet_18 kb_16 ?_
        refine gq_ic_eq (pc := 20) 36 dX12_sheet_20 (by decide) (fun h_20 => ?_) (fun h_20 => ?_)
        · exact absurd h_20 (by decide)
        · refine gq_iload_n (pc := 23) dX12_sheet_23 rfl ?_
          refine gq_bipush (pc := 24) dX12_sheet_24 kb_32 ?_
          refine gq_ic_eq (pc := 26) 36 dX12_sheet_26 (by decide) (fun h_26 => ?_) (fun h_26 => ?_)
          · refine gq_iload_n (pc := 36) dX12_sheet_36 rfl ?_
            refine gq_if_eq (pc := 37) 51 dX12_sheet_37 (by decide) (fun h_37 => ?_) (fun h_37 => ?_)
            · exact absurd h_37 (by decide)
            · refine gq_iload_n (pc := 40) dX12_sheet_40 rfl ?_
              refine gq_if_ge (pc := 41) 51 dX12_sheet_41 (by decide) (fun h_41 => ?_) (fun h_41 => ?_)
              · refine gq_iload_n (pc := 51) dX12_sheet_51 rfl ?_
                refine gq_if_eq (pc := 52) 68 dX12_sheet_52 (by decide) (fun h_52 => ?_) (fun h_52 => ?_)
                · exact absurd h_52 (by decide)
                · refine gq_iload_n (pc := 55) dX12_sheet_55 rfl ?_
                  refine gq_bipush (pc := 56) dX12_sheet_56 kb_40 ?_
                  refine gq_ic_le (pc := 58) 68 dX12_sheet_58 (by decide) (fun h_58 => ?_) (fun h_58 => ?_)
                  · exact absurd h_58 h40
                  · refine gq_aload_n (pc := 61) dX12_sheet_61 rfl ?_
                    refine gq_ldc (pc := 62) dX12_sheet_62 kn_X12_53 ?_
                    refine gq_rV1i (pc := 64) dX12_sheet_64 cv_X12_54 sh_76 (k_errs (j := 1) (by decide) (by decide)) ⟨by decide, by decide⟩ rfl rfl (Nat.le_of_ble_eq_true rfl) ?_
                    exact gq_iret (pc := 67) rfl dX12_sheet_67 ⟨rfl, rfl⟩
              · exact absurd (Int32.not_lt.mp hn) h_41
          · exact absurd h_26 (by decide)
set_option maxHeartbeats 400000 in
theorem c_sheet_ok0_0 {n : Int32}  : ge_N X ge_SH YX11_sheet 2 [.ref (ge_ad X.1 0), .int 0, .int 0, .int n] (ge_k g 25 r x hb) (some (.int 1)) (ge_k (ge_row (ge_up (ge_up g 67 2 0) 67 1 0) 68 (fun j => if j < 0 then 0 else g 68 j)) 25 r x hb) := by
  refine gq_ofB (l := [(0, .ref (ge_ad X.1 0)), (1, .int 0), (2, .int 0), (3, .int n)]) (by decide) (Nat.le_of_ble_eq_true rfl) rfl ?_
  refine gq_iload_n (pc := 0) dX11_sheet_0 rfl ?_
  refine gq_rS1i (pc := 1) dX11_sheet_1 cs_X11_232 (c_noSheet _) ⟨by decide, by decide⟩ (Nat.le_of_ble_eq_true rfl) ?_
  refine gq_if_ne (pc := 4) 29 dX11_sheet_4 (by decide) (fun h_4 => ?_) (fun h_4 => ?_)
  · exact absurd h_4 (by decide)
  · refine gq_iload_n (pc := 7) dX11_sheet_7 rfl ?_
    refine gq_if_eq (pc := 8) 35 dX11_sheet_8 (by decide) (fun h_8 => ?_) (fun h_8 => ?_)
    · refine gq_iload_n (pc := 35) dX11_sheet_35 rfl ?_
      refine gq_if_eq (pc := 36) 49 dX11_sheet_36 (by decide) (fun h_36 => ?_) (fun h_36 => ?_)
      · refine gq_iload_n (pc := 49) dX11_sheet_49 rfl ?_
        refine gq_if_eq (pc := 50) 65 dX11_sheet_50 (by decide) (fun h_50 => ?_) (fun h_50 => ?_)
        · refine gq_aload_n (pc := 65) dX11_sheet_65 rfl ?_
          refine gq_getr (pc := 66) dX11_sheet_66 fl_X11_89_11 sh_0 rfl ?_
          refine gq_iload_n (pc := 69) dX11_sheet_69 rfl ?_
          refine gq_aald (pc := 70) dX11_sheet_70 sh_66 rfl kl_0 rfl (by decide) ?_
          refine gq_iload_n (pc := 71) dX11_sheet_71 rfl ?_
          refine gq_iload_n (pc := 72) dX11_sheet_72 rfl ?_
          refine gq_if_ne (pc := 73) 80 dX11_sheet_73 (by decide) (fun h_73 => ?_) (fun h_73 => ?_)
          · exact absurd h_73 (by decide)
          · refine gq_iconst (pc := 76) dX11_sheet_76 kc_0 ?_
            refine gq_goto (pc := 77) 81 dX11_sheet_77 (by decide) ?_
            refine gq_rV2v (pc := 81) dX11_sheet_81 cv_X11_300 sh_67 (r_clear_67 kl_0 (by decide)) ⟨by decide, by decide⟩ rfl rfl (Nat.le_of_ble_eq_true rfl) ?_
            refine gq_iconst (pc := 84) dX11_sheet_84 kc_1 ?_
            exact gq_iret (pc := 85) rfl dX11_sheet_85 ⟨rfl, rfl⟩
        · exact absurd h_50 (by decide)
      · exact absurd h_36 (by decide)
    · exact absurd h_8 (by decide)
set_option maxHeartbeats 400000 in
theorem c_sheet_ok0_1 {n : Int32}  : ge_N X ge_SH YX11_sheet 2 [.ref (ge_ad X.1 0), .int 1, .int 0, .int n] (ge_k g 25 r x hb) (some (.int 1)) (ge_k (ge_row (ge_up (ge_up g 69 2 0) 69 1 0) 70 (fun j => if j < 0 then 0 else g 70 j)) 25 r x hb) := by
  refine gq_ofB (l := [(0, .ref (ge_ad X.1 0)), (1, .int 1), (2, .int 0), (3, .int n)]) (by decide) (Nat.le_of_ble_eq_true rfl) rfl ?_
  refine gq_iload_n (pc := 0) dX11_sheet_0 rfl ?_
  refine gq_rS1i (pc := 1) dX11_sheet_1 cs_X11_232 (c_noSheet _) ⟨by decide, by decide⟩ (Nat.le_of_ble_eq_true rfl) ?_
  refine gq_if_ne (pc := 4) 29 dX11_sheet_4 (by decide) (fun h_4 => ?_) (fun h_4 => ?_)
  · exact absurd h_4 (by decide)
  · refine gq_iload_n (pc := 7) dX11_sheet_7 rfl ?_
    refine gq_if_eq (pc := 8) 35 dX11_sheet_8 (by decide) (fun h_8 => ?_) (fun h_8 => ?_)
    · refine gq_iload_n (pc := 35) dX11_sheet_35 rfl ?_
      refine gq_if_eq (pc := 36) 49 dX11_sheet_36 (by decide) (fun h_36 => ?_) (fun h_36 => ?_)
      · refine gq_iload_n (pc := 49) dX11_sheet_49 rfl ?_
        refine gq_if_eq (pc := 50) 65 dX11_sheet_50 (by decide) (fun h_50 => ?_) (fun h_50 => ?_)
        · refine gq_aload_n (pc := 65) dX11_sheet_65 rfl ?_
          refine gq_getr (pc := 66) dX11_sheet_66 fl_X11_89_11 sh_0 rfl ?_
          refine gq_iload_n (pc := 69) dX11_sheet_69 rfl ?_
          refine gq_aald (pc := 70) dX11_sheet_70 sh_66 rfl kl_1 rfl (by decide) ?_
          refine gq_iload_n (pc := 71) dX11_sheet_71 rfl ?_
          refine gq_iload_n (pc := 72) dX11_sheet_72 rfl ?_
          refine gq_if_ne (pc := 73) 80 dX11_sheet_73 (by decide) (fun h_73 => ?_) (fun h_73 => ?_)
          · exact absurd h_73 (by decide)
          · refine gq_iconst (pc := 76) dX11_sheet_76 kc_0 ?_
            refine gq_goto (pc := 77) 81 dX11_sheet_77 (by decide) ?_
            refine gq_rV2v (pc := 81) dX11_sheet_81 cv_X11_300 sh_69 (r_clear_69 kl_0 (by decide)) ⟨by decide, by decide⟩ rfl rfl (Nat.le_of_ble_eq_true rfl) ?_
            refine gq_iconst (pc := 84) dX11_sheet_84 kc_1 ?_
            exact gq_iret (pc := 85) rfl dX11_sheet_85 ⟨rfl, rfl⟩
        · exact absurd h_50 (by decide)
      · exact absurd h_36 (by decide)
    · exact absurd h_8 (by decide)
set_option maxHeartbeats 400000 in
theorem c_sheet_ok0_2 {n : Int32}  : ge_N X ge_SH YX11_sheet 2 [.ref (ge_ad X.1 0), .int 2, .int 0, .int n] (ge_k g 25 r x hb) (some (.int 1)) (ge_k (ge_row (ge_up (ge_up g 71 2 0) 71 1 0) 72 (fun j => if j < 0 then 0 else g 72 j)) 25 r x hb) := by
  refine gq_ofB (l := [(0, .ref (ge_ad X.1 0)), (1, .int 2), (2, .int 0), (3, .int n)]) (by decide) (Nat.le_of_ble_eq_true rfl) rfl ?_
  refine gq_iload_n (pc := 0) dX11_sheet_0 rfl ?_
  refine gq_rS1i (pc := 1) dX11_sheet_1 cs_X11_232 (c_noSheet _) ⟨by decide, by decide⟩ (Nat.le_of_ble_eq_true rfl) ?_
  refine gq_if_ne (pc := 4) 29 dX11_sheet_4 (by decide) (fun h_4 => ?_) (fun h_4 => ?_)
  · exact absurd h_4 (by decide)
  · refine gq_iload_n (pc := 7) dX11_sheet_7 rfl ?_
    refine gq_if_eq (pc := 8) 35 dX11_sheet_8 (by decide) (fun h_8 => ?_) (fun h_8 => ?_)
    · refine gq_iload_n (pc := 35) dX11_sheet_35 rfl ?_
      refine gq_if_eq (pc := 36) 49 dX11_sheet_36 (by decide) (fun h_36 => ?_) (fun h_36 => ?_)
      · refine gq_iload_n (pc := 49) dX11_sheet_49 rfl ?_
        refine gq_if_eq (pc := 50) 65 dX11_sheet_50 (by decide) (fun h_50 => ?_) (fun h_50 => ?_)
        · refine gq_aload_n (pc := 65) dX11_sheet_65 rfl ?_
          refine gq_getr (pc := 66) dX11_sheet_66 fl_X11_89_11 sh_0 rfl ?_
          refine gq_iload_n (pc := 69) dX11_sheet_69 rfl ?_
          refine gq_aald (pc := 70) dX11_sheet_70 sh_66 rfl kl_2 rfl (by decide) ?_
          refine gq_iload_n (pc := 71) dX11_sheet_71 rfl ?_
          refine gq_iload_n (pc := 72) dX11_sheet_72 rfl ?_
          refine gq_if_ne (pc := 73) 80 dX11_sheet_73 (by decide) (fun h_73 => ?_) (fun h_73 => ?_)
          · exact absurd h_73 (by decide)
          · refine gq_iconst (pc := 76) dX11_sheet_76 kc_0 ?_
            refine gq_goto (pc := 77) 81 dX11_sheet_77 (by decide) ?_
            refine gq_rV2v (pc := 81) dX11_sheet_81 cv_X11_300 sh_71 (r_clear_71 kl_0 (by decide)) ⟨by decide, by decide⟩ rfl rfl (Nat.le_of_ble_eq_true rfl) ?_
            refine gq_iconst (pc := 84) dX11_sheet_84 kc_1 ?_
            exact gq_iret (pc := 85) rfl dX11_sheet_85 ⟨rfl, rfl⟩
        · exact absurd h_50 (by decide)
      · exact absurd h_36 (by decide)
    · exact absurd h_8 (by decide)
set_option maxHeartbeats 400000 in
theorem c_sheet_ok0_3 {n : Int32}  : ge_N X ge_SH YX11_sheet 2 [.ref (ge_ad X.1 0), .int 3, .int 0, .int n] (ge_k g 25 r x hb) (some (.int 1)) (ge_k (ge_row (ge_up (ge_up g 73 2 0) 73 1 0) 74 (fun j => if j < 0 then 0 else g 74 j)) 25 r x hb) := by
  refine gq_ofB (l := [(0, .ref (ge_ad X.1 0)), (1, .int 3), (2, .int 0), (3, .int n)]) (by decide) (Nat.le_of_ble_eq_true rfl) rfl ?_
  refine gq_iload_n (pc := 0) dX11_sheet_0 rfl ?_
  refine gq_rS1i (pc := 1) dX11_sheet_1 cs_X11_232 (c_noSheet _) ⟨by decide, by decide⟩ (Nat.le_of_ble_eq_true rfl) ?_
  refine gq_if_ne (pc := 4) 29 dX11_sheet_4 (by decide) (fun h_4 => ?_) (fun h_4 => ?_)
  · exact absurd h_4 (by decide)
  · refine gq_iload_n (pc := 7) dX11_sheet_7 rfl ?_
    refine gq_if_eq (pc := 8) 35 dX11_sheet_8 (by decide) (fun h_8 => ?_) (fun h_8 => ?_)
    · refine gq_iload_n (pc := 35) dX11_sheet_35 rfl ?_
      refine gq_if_eq (pc := 36) 49 dX11_sheet_36 (by decide) (fun h_36 => ?_) (fun h_36 => ?_)
      · refine gq_iload_n (pc := 49) dX11_sheet_49 rfl ?_
        refine gq_if_eq (pc := 50) 65 dX11_sheet_50 (by decide) (fun h_50 => ?_) (fun h_50 => ?_)
        · refine gq_aload_n (pc := 65) dX11_sheet_65 rfl ?_
          refine gq_getr (pc := 66) dX11_sheet_66 fl_X11_89_11 sh_0 rfl ?_
          refine gq_iload_n (pc := 69) dX11_sheet_69 rfl ?_
          refine gq_aald (pc := 70) dX11_sheet_70 sh_66 rfl kl_3 rfl (by decide) ?_
          refine gq_iload_n (pc := 71) dX11_sheet_71 rfl ?_
          refine gq_iload_n (pc := 72) dX11_sheet_72 rfl ?_
          refine gq_if_ne (pc := 73) 80 dX11_sheet_73 (by decide) (fun h_73 => ?_) (fun h_73 => ?_)
          · exact absurd h_73 (by decide)
          · refine gq_iconst (pc := 76) dX11_sheet_76 kc_0 ?_
            refine gq_goto (pc := 77) 81 dX11_sheet_77 (by decide) ?_
            refine gq_rV2v (pc := 81) dX11_sheet_81 cv_X11_300 sh_73 (r_clear_73 kl_0 (by decide)) ⟨by decide, by decide⟩ rfl rfl (Nat.le_of_ble_eq_true rfl) ?_
            refine gq_iconst (pc := 84) dX11_sheet_84 kc_1 ?_
            exact gq_iret (pc := 85) rfl dX11_sheet_85 ⟨rfl, rfl⟩
        · exact absurd h_50 (by decide)
      · exact absurd h_36 (by decide)
    · exact absurd h_8 (by decide)
set_option maxHeartbeats 1000000 in
theorem m_sheet_ok0 {s : Int32} {S : Nat} (hs : s = nI S) (hS : S ≤ 3) {n : Int32}  : ge_N X ge_SH YX12_sheet 2 [.ref (ge_ad X.1 76), .int s, .int 0, .int n] (ge_m g r f) (some (.int 1)) (ge_m (ge_row (ge_up (ge_up g 82 S 0) 83 S 0) 84 (fun j => if 40 * S ≤ j ∧ j < 40 * S + 40 then 0 else g 84 j)) r f) := by
  refine gq_ofB (l := [(0, .ref (ge_ad X.1 76)), (1, .int s), (2, .int 0), (3, .int n)]) (by decide) (Nat.le_of_ble_eq_true rfl) rfl ?_
  have key : ∀ (m i : Nat), i + m = 40 → ge_B X ge_SH YX12_sheet 2 (fun v2 g2 => v2 = (some (.int 1)) ∧ g2 = (ge_m (ge_row (ge_up (ge_up g 82 S 0) 83 S 0) 84 (fun j => if 40 * S ≤ j ∧ j < 40 * S + 40 then 0 else g 84 j)) r f)) 93 [(4, .int (nI i)), (0, .ref (ge_ad X.1 76)), (1, .int s), (2, .int 0), (3, .int n)] [] (ge_m (ge_row (ge_up (ge_up g 82 S 0) 83 S 0) 84 (fun j => if 40 * S ≤ j ∧ j < 40 * S + i then 0 else g 84 j)) r f) := by
    intro m
    induction m with
    | zero =>
      intro i hi
      obtain rfl : i = 40 := hi
      refine gq_iload (pc := 93) dX12_sheet_93 rfl ?_
      refine gq_bipush (pc := 95) dX12_sheet_95 kb_40 ?_
      refine gq_ic_ge (pc := 97) 119 dX12_sheet_97 (by decide) (fun h_97 => ?_) (fun h_97 => ?_)
      · refine gq_iconst (pc := 119) dX12_sheet_119 kc_1 ?_
        exact gq_iret (pc := 120) rfl dX12_sheet_120 ⟨rfl, rfl⟩
      · exact absurd (by first | exact Int32.le_refl _ | (rw [None]; exact Int32.le_refl _)) h_97
    | succ m ih =>
      intro i hi
      refine gq_iload (pc := 93) dX12_sheet_93 rfl ?_
      refine gq_bipush (pc := 95) dX12_sheet_95 kb_40 ?_
      refine gq_ic_ge (pc := 97) 119 dX12_sheet_97 (by decide) (fun h_97 => ?_) (fun h_97 => ?_)
      · skip
        exact absurd ((nI_leI (a := 40) (b := i) (by omega) (by omega)).mp h_97) (by omega)
      · refine gq_aload_n (pc := 100) dX12_sheet_100 rfl ?_
        refine gq_getr (pc := 101) dX12_sheet_101 fl_X12_31_12 sh_76 rfl ?_
        refine gq_bipush (pc := 104) dX12_sheet_104 kb_40 ?_
        refine gq_iload_n (pc := 106) dX12_sheet_106 rfl ?_
        refine gq_imul (pc := 107) dX12_sheet_107 ?_
        refine gq_iload (pc := 108) dX12_sheet_108 rfl ?_
        refine gq_iadd (pc := 110) dX12_sheet_110 ?_
        refine gq_iconst (pc := 111) dX12_sheet_111 kc_0 ?_
        refine qm_asto (pc := 112) dX12_sheet_112 sh_84 (by decide) (by rw [hs, show (40 : Int32) * nI S = nI (40 * S) from pk_mul 40 S, nI_add]) (by first | decide | omega) (by decide) ?_
        refine gq_iinc (pc := 113) (l' := [(4, _), (0, _), (1, _), (2, _), (3, _)]) dX12_sheet_113 rfl (ge_inc1 i) (by decide) rfl ?_
        refine gq_goto (pc := 116) 93 dX12_sheet_116 (by decide) ?_
        refine gq_sub [0, 1, 2, 3, 4] rfl ?_
        refine gq_tog ?_ (ih (i + 1) (by omega))
        rw [ge_up17]
        congr 2
        funext j
        show (if 40 * S ≤ j ∧ j < 40 * S + (i + 1) then (0 : Int32) else g 84 j) = upd (fun j => if 40 * S ≤ j ∧ j < 40 * S + i then 0 else g 84 j) (40 * S + i) 0 j
        by_cases hj : j = 40 * S + i
        · subst hj; simp [upd]
        · by_cases h2 : 40 * S ≤ j ∧ j < 40 * S + i
          · rw [if_pos ⟨h2.1, by omega⟩, pk_un hj, if_pos h2]
          · rw [if_neg (by omega), pk_un hj, if_neg h2]
  refine gq_iload_n (pc := 0) dX12_sheet_0 rfl ?_
  refine gq_rS1i (pc := 1) dX12_sheet_1 cs_X12_203 (k_isSheet _) ⟨by decide, by decide⟩ (Nat.le_of_ble_eq_true rfl) ?_
  refine gq_if_eq (pc := 4) 29 dX12_sheet_4 (by decide) (fun h_4 => ?_) (fun h_4 => ?_)
  · exact absurd h_4 (p_in_le (N := 3) hs hS (by decide))
  · refine gq_iload_n (pc := 7) dX12_sheet_7 rfl ?_
    refine gq_if_eq (pc := 8) 36 dX12_sheet_8 (by decide) (fun h_8 => ?_) (fun h_8 => ?_)
    · refine gq_iload_n (pc := 36) dX12_sheet_36 rfl ?_
      refine gq_if_eq (pc := 37) 51 dX12_sheet_37 (by decide) (fun h_37 => ?_) (fun h_37 => ?_)
      · refine gq_iload_n (pc := 51) dX12_sheet_51 rfl ?_
        refine gq_if_eq (pc := 52) 68 dX12_sheet_52 (by decide) (fun h_52 => ?_) (fun h_52 => ?_)
        · refine gq_aload_n (pc := 68) dX12_sheet_68 rfl ?_
          refine gq_getr (pc := 69) dX12_sheet_69 fl_X12_25_12 sh_76 rfl ?_
          refine gq_iload_n (pc := 72) dX12_sheet_72 rfl ?_
          refine gq_iload_n (pc := 73) dX12_sheet_73 rfl ?_
          refine qm_asto (pc := 74) dX12_sheet_74 sh_82 (by decide) hs (by first | decide | omega) (by decide) ?_
          refine gq_aload_n (pc := 75) dX12_sheet_75 rfl ?_
          refine gq_getr (pc := 76) dX12_sheet_76 fl_X12_28_12 sh_76 rfl ?_
          refine gq_iload_n (pc := 79) dX12_sheet_79 rfl ?_
          refine gq_iload_n (pc := 80) dX12_sheet_80 rfl ?_
          refine gq_if_ne (pc := 81) 88 dX12_sheet_81 (by decide) (fun h_81 => ?_) (fun h_81 => ?_)
          · exact absurd h_81 (by decide)
          · refine gq_iconst (pc := 84) dX12_sheet_84 kc_0 ?_
            refine gq_goto (pc := 85) 89 dX12_sheet_85 (by decide) ?_
            refine qm_asto (pc := 89) dX12_sheet_89 sh_83 (by decide) hs (by first | decide | omega) (by decide) ?_
            refine gq_iconst (pc := 90) dX12_sheet_90 kc_0 ?_
            refine gq_istore (pc := 91) (l' := [(4, _), (0, _), (1, _), (2, _), (3, _)]) dX12_sheet_91 (by decide) rfl ?_
            refine gq_sub [0, 1, 2, 3, 4] rfl ?_
            refine gq_tog ?_ (key 40 0 (by omega))
            congr 1
            funext q
            by_cases hq : q = 84
            · subst hq; rw [ge_row_self]; funext j; rw [if_neg (by omega), ge_up_row _ _ _ (by decide), ge_up_row _ _ _ (by decide)]
            · rw [ge_row_ne _ _ hq]
        · exact absurd h_52 (by decide)
      · exact absurd h_37 (by decide)
    · exact absurd h_8 (by decide)
set_option maxHeartbeats 400000 in
theorem c_sheet_ok8_0 {n : Int32} {m : Nat} (hm : n = nI m) (hm2 : m ≤ 40)  : ge_N X ge_SH YX11_sheet 2 [.ref (ge_ad X.1 0), .int 0, .int 8, .int n] (ge_k g 25 r x hb) (some (.int 1)) (ge_k (ge_row (ge_up (ge_up g 67 2 8) 67 1 n) 68 (fun j => if j < m then 0 else g 68 j)) 25 r x hb) := by
  refine gq_ofB (l := [(0, .ref (ge_ad X.1 0)), (1, .int 0), (2, .int 8), (3, .int n)]) (by decide) (Nat.le_of_ble_eq_true rfl) rfl ?_
  refine gq_iload_n (pc := 0) dX11_sheet_0 rfl ?_
  refine gq_rS1i (pc := 1) dX11_sheet_1 cs_X11_232 (c_noSheet _) ⟨by decide, by decide⟩ (Nat.le_of_ble_eq_true rfl) ?_
  refine gq_if_ne (pc := 4) 29 dX11_sheet_4 (by decide) (fun h_4 => ?_) (fun h_4 => ?_)
  · exact absurd h_4 (by decide)
  · refine gq_iload_n (pc := 7) dX11_sheet_7 rfl ?_
    refine gq_if_eq (pc := 8) 35 dX11_sheet_8 (by decide) (fun h_8 => ?_) (fun h_8 => ?_)
    · exact absurd h_8 (by decide)
    · refine gq_iload_n (pc := 11) dX11_sheet_11 rfl ?_
      refine gq_bipush (pc := 12) dX11_sheet_12 kb_8 ?_
      refine gq_ic_eq (pc := 14) 35 dX11_sheet_14 (by decide) (fun h_14 => ?_) (fun h_14 => ?_)
      · refine gq_iload_n (pc := 35) dX11_sheet_35 rfl ?_
        refine gq_if_eq (pc := 36) 49 dX11_sheet_36 (by decide) (fun h_36 => ?_) (fun h_36 => ?_)
        · exact absurd h_36 (by decide)
        · refine gq_iload_n (pc := 39) dX11_sheet_39 rfl ?_
          refine gq_if_ge (pc := 40) 49 dX11_sheet_40 (by decide) (fun h_40 => ?_) (fun h_40 => ?_)
          · refine gq_iload_n (pc := 49) dX11_sheet_49 rfl ?_
            refine gq_if_eq (pc := 50) 65 dX11_sheet_50 (by decide) (fun h_50 => ?_) (fun h_50 => ?_)
            · exact absurd h_50 (by decide)
            · refine gq_iload_n (pc := 53) dX11_sheet_53 rfl ?_
              refine gq_bipush (pc := 54) dX11_sheet_54 kb_40 ?_
              refine gq_ic_le (pc := 56) 65 dX11_sheet_56 (by decide) (fun h_56 => ?_) (fun h_56 => ?_)
              · refine gq_aload_n (pc := 65) dX11_sheet_65 rfl ?_
                refine gq_getr (pc := 66) dX11_sheet_66 fl_X11_89_11 sh_0 rfl ?_
                refine gq_iload_n (pc := 69) dX11_sheet_69 rfl ?_
                refine gq_aald (pc := 70) dX11_sheet_70 sh_66 rfl kl_0 rfl (by decide) ?_
                refine gq_iload_n (pc := 71) dX11_sheet_71 rfl ?_
                refine gq_iload_n (pc := 72) dX11_sheet_72 rfl ?_
                refine gq_if_ne (pc := 73) 80 dX11_sheet_73 (by decide) (fun h_73 => ?_) (fun h_73 => ?_)
                · refine gq_iload_n (pc := 80) dX11_sheet_80 rfl ?_
                  refine gq_rV2v (pc := 81) dX11_sheet_81 cv_X11_300 sh_67 (r_clear_67 hm hm2) ⟨by decide, by decide⟩ rfl rfl (Nat.le_of_ble_eq_true rfl) ?_
                  refine gq_iconst (pc := 84) dX11_sheet_84 kc_1 ?_
                  exact gq_iret (pc := 85) rfl dX11_sheet_85 ⟨rfl, rfl⟩
                · exact absurd h_73 (by decide)
              · exact absurd (by rw [hm]; exact (nI_leI (b := 40) (by omega) (by decide)).mpr hm2) h_56
          · exact absurd (by rw [hm]; exact nI_pos' (by omega)) h_40
      · exact absurd h_14 (by decide)
set_option maxHeartbeats 400000 in
theorem c_sheet_ok8_1 {n : Int32} {m : Nat} (hm : n = nI m) (hm2 : m ≤ 40)  : ge_N X ge_SH YX11_sheet 2 [.ref (ge_ad X.1 0), .int 1, .int 8, .int n] (ge_k g 25 r x hb) (some (.int 1)) (ge_k (ge_row (ge_up (ge_up g 69 2 8) 69 1 n) 70 (fun j => if j < m then 0 else g 70 j)) 25 r x hb) := by
  refine gq_ofB (l := [(0, .ref (ge_ad X.1 0)), (1, .int 1), (2, .int 8), (3, .int n)]) (by decide) (Nat.le_of_ble_eq_true rfl) rfl ?_
  refine gq_iload_n (pc := 0) dX11_sheet_0 rfl ?_
  refine gq_rS1i (pc := 1) dX11_sheet_1 cs_X11_232 (c_noSheet _) ⟨by decide, by decide⟩ (Nat.le_of_ble_eq_true rfl) ?_
  refine gq_if_ne (pc := 4) 29 dX11_sheet_4 (by decide) (fun h_4 => ?_) (fun h_4 => ?_)
  · exact absurd h_4 (by decide)
  · refine gq_iload_n (pc := 7) dX11_sheet_7 rfl ?_
    refine gq_if_eq (pc := 8) 35 dX11_sheet_8 (by decide) (fun h_8 => ?_) (fun h_8 => ?_)
    · exact absurd h_8 (by decide)
    · refine gq_iload_n (pc := 11) dX11_sheet_11 rfl ?_
      refine gq_bipush (pc := 12) dX11_sheet_12 kb_8 ?_
      refine gq_ic_eq (pc := 14) 35 dX11_sheet_14 (by decide) (fun h_14 => ?_) (fun h_14 => ?_)
      · refine gq_iload_n (pc := 35) dX11_sheet_35 rfl ?_
        refine gq_if_eq (pc := 36) 49 dX11_sheet_36 (by decide) (fun h_36 => ?_) (fun h_36 => ?_)
        · exact absurd h_36 (by decide)
        · refine gq_iload_n (pc := 39) dX11_sheet_39 rfl ?_
          refine gq_if_ge (pc := 40) 49 dX11_sheet_40 (by decide) (fun h_40 => ?_) (fun h_40 => ?_)
          · refine gq_iload_n (pc := 49) dX11_sheet_49 rfl ?_
            refine gq_if_eq (pc := 50) 65 dX11_sheet_50 (by decide) (fun h_50 => ?_) (fun h_50 => ?_)
            · exact absurd h_50 (by decide)
            · refine gq_iload_n (pc := 53) dX11_sheet_53 rfl ?_
              refine gq_bipush (pc := 54) dX11_sheet_54 kb_40 ?_
              refine gq_ic_le (pc := 56) 65 dX11_sheet_56 (by decide) (fun h_56 => ?_) (fun h_56 => ?_)
              · refine gq_aload_n (pc := 65) dX11_sheet_65 rfl ?_
                refine gq_getr (pc := 66) dX11_sheet_66 fl_X11_89_11 sh_0 rfl ?_
                refine gq_iload_n (pc := 69) dX11_sheet_69 rfl ?_
                refine gq_aald (pc := 70) dX11_sheet_70 sh_66 rfl kl_1 rfl (by decide) ?_
                refine gq_iload_n (pc := 71) dX11_sheet_71 rfl ?_
                refine gq_iload_n (pc := 72) dX11_sheet_72 rfl ?_
                refine gq_if_ne (pc := 73) 80 dX11_sheet_73 (by decide) (fun h_73 => ?_) (fun h_73 => ?_)
                · refine gq_iload_n (pc := 80) dX11_sheet_80 rfl ?_
                  refine gq_rV2v (pc := 81) dX11_sheet_81 cv_X11_300 sh_69 (r_clear_69 hm hm2) ⟨by decide, by decide⟩ rfl rfl (Nat.le_of_ble_eq_true rfl) ?_
                  refine gq_iconst (pc := 84) dX11_sheet_84 kc_1 ?_
                  exact gq_iret (pc := 85) rfl dX11_sheet_85 ⟨rfl, rfl⟩
                · exact absurd h_73 (by decide)
              · exact absurd (by rw [hm]; exact (nI_leI (b := 40) (by omega) (by decide)).mpr hm2) h_56
          · exact absurd (by rw [hm]; exact nI_pos' (by omega)) h_40
      · exact absurd h_14 (by decide)
set_option maxHeartbeats 400000 in
theorem c_sheet_ok8_2 {n : Int32} {m : Nat} (hm : n = nI m) (hm2 : m ≤ 40)  : ge_N X ge_SH YX11_sheet 2 [.ref (ge_ad X.1 0), .int 2, .int 8, .int n] (ge_k g 25 r x hb) (some (.int 1)) (ge_k (ge_row (ge_up (ge_up g 71 2 8) 71 1 n) 72 (fun j => if j < m then 0 else g 72 j)) 25 r x hb) := by
  refine gq_ofB (l := [(0, .ref (ge_ad X.1 0)), (1, .int 2), (2, .int 8), (3, .int n)]) (by decide) (Nat.le_of_ble_eq_true rfl) rfl ?_
  refine gq_iload_n (pc := 0) dX11_sheet_0 rfl ?_
  refine gq_rS1i (pc := 1) dX11_sheet_1 cs_X11_232 (c_noSheet _) ⟨by decide, by decide⟩ (Nat.le_of_ble_eq_true rfl) ?_
  refine gq_if_ne (pc := 4) 29 dX11_sheet_4 (by decide) (fun h_4 => ?_) (fun h_4 => ?_)
  · exact absurd h_4 (by decide)
  · refine gq_iload_n (pc := 7) dX11_sheet_7 rfl ?_
    refine gq_if_eq (pc := 8) 35 dX11_sheet_8 (by decide) (fun h_8 => ?_) (fun h_8 => ?_)
    · exact absurd h_8 (by decide)
    · refine gq_iload_n (pc := 11) dX11_sheet_11 rfl ?_
      refine gq_bipush (pc := 12) dX11_sheet_12 kb_8 ?_
      refine gq_ic_eq (pc := 14) 35 dX11_sheet_14 (by decide) (fun h_14 => ?_) (fun h_14 => ?_)
      · refine gq_iload_n (pc := 35) dX11_sheet_35 rfl ?_
        refine gq_if_eq (pc := 36) 49 dX11_sheet_36 (by decide) (fun h_36 => ?_) (fun h_36 => ?_)
        · exact absurd h_36 (by decide)
        · refine gq_iload_n (pc := 39) dX11_sheet_39 rfl ?_
          refine gq_if_ge (pc := 40) 49 dX11_sheet_40 (by decide) (fun h_40 => ?_) (fun h_40 => ?_)
          · refine gq_iload_n (pc := 49) dX11_sheet_49 rfl ?_
            refine gq_if_eq (pc := 50) 65 dX11_sheet_50 (by decide) (fun h_50 => ?_) (fun h_50 => ?_)
            · exact absurd h_50 (by decide)
            · refine gq_iload_n (pc := 53) dX11_sheet_53 rfl ?_
              refine gq_bipush (pc := 54) dX11_sheet_54 kb_40 ?_
              refine gq_ic_le (pc := 56) 65 dX11_sheet_56 (by decide) (fun h_56 => ?_) (fun h_56 => ?_)
              · refine gq_aload_n (pc := 65) dX11_sheet_65 rfl ?_
                refine gq_getr (pc := 66) dX11_sheet_66 fl_X11_89_11 sh_0 rfl ?_
                refine gq_iload_n (pc := 69) dX11_sheet_69 rfl ?_
                refine gq_aald (pc := 70) dX11_sheet_70 sh_66 rfl kl_2 rfl (by decide) ?_
                refine gq_iload_n (pc := 71) dX11_sheet_71 rfl ?_
                refine gq_iload_n (pc := 72) dX11_sheet_72 rfl ?_
                refine gq_if_ne (pc := 73) 80 dX11_sheet_73 (by decide) (fun h_73 => ?_) (fun h_73 => ?_)
                · refine gq_iload_n (pc := 80) dX11_sheet_80 rfl ?_
                  refine gq_rV2v (pc := 81) dX11_sheet_81 cv_X11_300 sh_71 (r_clear_71 hm hm2) ⟨by decide, by decide⟩ rfl rfl (Nat.le_of_ble_eq_true rfl) ?_
                  refine gq_iconst (pc := 84) dX11_sheet_84 kc_1 ?_
                  exact gq_iret (pc := 85) rfl dX11_sheet_85 ⟨rfl, rfl⟩
                · exact absurd h_73 (by decide)
              · exact absurd (by rw [hm]; exact (nI_leI (b := 40) (by omega) (by decide)).mpr hm2) h_56
          · exact absurd (by rw [hm]; exact nI_pos' (by omega)) h_40
      · exact absurd h_14 (by decide)
set_option maxHeartbeats 400000 in
theorem c_sheet_ok8_3 {n : Int32} {m : Nat} (hm : n = nI m) (hm2 : m ≤ 40)  : ge_N X ge_SH YX11_sheet 2 [.ref (ge_ad X.1 0), .int 3, .int 8, .int n] (ge_k g 25 r x hb) (some (.int 1)) (ge_k (ge_row (ge_up (ge_up g 73 2 8) 73 1 n) 74 (fun j => if j < m then 0 else g 74 j)) 25 r x hb) := by
  refine gq_ofB (l := [(0, .ref (ge_ad X.1 0)), (1, .int 3), (2, .int 8), (3, .int n)]) (by decide) (Nat.le_of_ble_eq_true rfl) rfl ?_
  refine gq_iload_n (pc := 0) dX11_sheet_0 rfl ?_
  refine gq_rS1i (pc := 1) dX11_sheet_1 cs_X11_232 (c_noSheet _) ⟨by decide, by decide⟩ (Nat.le_of_ble_eq_true rfl) ?_
  refine gq_if_ne (pc := 4) 29 dX11_sheet_4 (by decide) (fun h_4 => ?_) (fun h_4 => ?_)
  · exact absurd h_4 (by decide)
  · refine gq_iload_n (pc := 7) dX11_sheet_7 rfl ?_
    refine gq_if_eq (pc := 8) 35 dX11_sheet_8 (by decide) (fun h_8 => ?_) (fun h_8 => ?_)
    · exact absurd h_8 (by decide)
    · refine gq_iload_n (pc := 11) dX11_sheet_11 rfl ?_
      refine gq_bipush (pc := 12) dX11_sheet_12 kb_8 ?_
      refine gq_ic_eq (pc := 14) 35 dX11_sheet_14 (by decide) (fun h_14 => ?_) (fun h_14 => ?_)
      · refine gq_iload_n (pc := 35) dX11_sheet_35 rfl ?_
        refine gq_if_eq (pc := 36) 49 dX11_sheet_36 (by decide) (fun h_36 => ?_) (fun h_36 => ?_)
        · exact absurd h_36 (by decide)
        · refine gq_iload_n (pc := 39) dX11_sheet_39 rfl ?_
          refine gq_if_ge (pc := 40) 49 dX11_sheet_40 (by decide) (fun h_40 => ?_) (fun h_40 => ?_)
          · refine gq_iload_n (pc := 49) dX11_sheet_49 rfl ?_
            refine gq_if_eq (pc := 50) 65 dX11_sheet_50 (by decide) (fun h_50 => ?_) (fun h_50 => ?_)
            · exact absurd h_50 (by decide)
            · refine gq_iload_n (pc := 53) dX11_sheet_53 rfl ?_
              refine gq_bipush (pc := 54) dX11_sheet_54 kb_40 ?_
              refine gq_ic_le (pc := 56) 65 dX11_sheet_56 (by decide) (fun h_56 => ?_) (fun h_56 => ?_)
              · refine gq_aload_n (pc := 65) dX11_sheet_65 rfl ?_
                refine gq_getr (pc := 66) dX11_sheet_66 fl_X11_89_11 sh_0 rfl ?_
                refine gq_iload_n (pc := 69) dX11_sheet_69 rfl ?_
                refine gq_aald (pc := 70) dX11_sheet_70 sh_66 rfl kl_3 rfl (by decide) ?_
                refine gq_iload_n (pc := 71) dX11_sheet_71 rfl ?_
                refine gq_iload_n (pc := 72) dX11_sheet_72 rfl ?_
                refine gq_if_ne (pc := 73) 80 dX11_sheet_73 (by decide) (fun h_73 => ?_) (fun h_73 => ?_)
                · refine gq_iload_n (pc := 80) dX11_sheet_80 rfl ?_
                  refine gq_rV2v (pc := 81) dX11_sheet_81 cv_X11_300 sh_73 (r_clear_73 hm hm2) ⟨by decide, by decide⟩ rfl rfl (Nat.le_of_ble_eq_true rfl) ?_
                  refine gq_iconst (pc := 84) dX11_sheet_84 kc_1 ?_
                  exact gq_iret (pc := 85) rfl dX11_sheet_85 ⟨rfl, rfl⟩
                · exact absurd h_73 (by decide)
              · exact absurd (by rw [hm]; exact (nI_leI (b := 40) (by omega) (by decide)).mpr hm2) h_56
          · exact absurd (by rw [hm]; exact nI_pos' (by omega)) h_40
      · exact absurd h_14 (by decide)
set_option maxHeartbeats 1000000 in
theorem m_sheet_ok8 {s : Int32} {S : Nat} (hs : s = nI S) (hS : S ≤ 3) {n : Int32} {m : Nat} (hm : n = nI m) (hm2 : m ≤ 40)  : ge_N X ge_SH YX12_sheet 2 [.ref (ge_ad X.1 76), .int s, .int 8, .int n] (ge_m g r f) (some (.int 1)) (ge_m (ge_row (ge_up (ge_up g 82 S 8) 83 S n) 84 (fun j => if 40 * S ≤ j ∧ j < 40 * S + 40 then 0 else g 84 j)) r f) := by
  refine gq_ofB (l := [(0, .ref (ge_ad X.1 76)), (1, .int s), (2, .int 8), (3, .int n)]) (by decide) (Nat.le_of_ble_eq_true rfl) rfl ?_
  have key : ∀ (m i : Nat), i + m = 40 → ge_B X ge_SH YX12_sheet 2 (fun v2 g2 => v2 = (some (.int 1)) ∧ g2 = (ge_m (ge_row (ge_up (ge_up g 82 S 8) 83 S n) 84 (fun j => if 40 * S ≤ j ∧ j < 40 * S + 40 then 0 else g 84 j)) r f)) 93 [(4, .int (nI i)), (0, .ref (ge_ad X.1 76)), (1, .int s), (2, .int 8), (3, .int n)] [] (ge_m (ge_row (ge_up (ge_up g 82 S 8) 83 S n) 84 (fun j => if 40 * S ≤ j ∧ j < 40 * S + i then 0 else g 84 j)) r f) := by
    intro m
    induction m with
    | zero =>
      intro i hi
      obtain rfl : i = 40 := hi
      refine gq_iload (pc := 93) dX12_sheet_93 rfl ?_
      refine gq_bipush (pc := 95) dX12_sheet_95 kb_40 ?_
      refine gq_ic_ge (pc := 97) 119 dX12_sheet_97 (by decide) (fun h_97 => ?_) (fun h_97 => ?_)
      · refine gq_iconst (pc := 119) dX12_sheet_119 kc_1 ?_
        exact gq_iret (pc := 120) rfl dX12_sheet_120 ⟨rfl, rfl⟩
      · exact absurd (by first | exact Int32.le_refl _ | (rw [None]; exact Int32.le_refl _)) h_97
    | succ m ih =>
      intro i hi
      refine gq_iload (pc := 93) dX12_sheet_93 rfl ?_
      refine gq_bipush (pc := 95) dX12_sheet_95 kb_40 ?_
      refine gq_ic_ge (pc := 97) 119 dX12_sheet_97 (by decide) (fun h_97 => ?_) (fun h_97 => ?_)
      · skip
        exact absurd ((nI_leI (a := 40) (b := i) (by omega) (by omega)).mp h_97) (by omega)
      · refine gq_aload_n (pc := 100) dX12_sheet_100 rfl ?_
        refine gq_getr (pc := 101) dX12_sheet_101 fl_X12_31_12 sh_76 rfl ?_
        refine gq_bipush (pc := 104) dX12_sheet_104 kb_40 ?_
        refine gq_iload_n (pc := 106) dX12_sheet_106 rfl ?_
        refine gq_imul (pc := 107) dX12_sheet_107 ?_
        refine gq_iload (pc := 108) dX12_sheet_108 rfl ?_
        refine gq_iadd (pc := 110) dX12_sheet_110 ?_
        refine gq_iconst (pc := 111) dX12_sheet_111 kc_0 ?_
        refine qm_asto (pc := 112) dX12_sheet_112 sh_84 (by decide) (by rw [hs, show (40 : Int32) * nI S = nI (40 * S) from pk_mul 40 S, nI_add]) (by first | decide | omega) (by decide) ?_
        refine gq_iinc (pc := 113) (l' := [(4, _), (0, _), (1, _), (2, _), (3, _)]) dX12_sheet_113 rfl (ge_inc1 i) (by decide) rfl ?_
        refine gq_goto (pc := 116) 93 dX12_sheet_116 (by decide) ?_
        refine gq_sub [0, 1, 2, 3, 4] rfl ?_
        refine gq_tog ?_ (ih (i + 1) (by omega))
        rw [ge_up17]
        congr 2
        funext j
        show (if 40 * S ≤ j ∧ j < 40 * S + (i + 1) then (0 : Int32) else g 84 j) = upd (fun j => if 40 * S ≤ j ∧ j < 40 * S + i then 0 else g 84 j) (40 * S + i) 0 j
        by_cases hj : j = 40 * S + i
        · subst hj; simp [upd]
        · by_cases h2 : 40 * S ≤ j ∧ j < 40 * S + i
          · rw [if_pos ⟨h2.1, by omega⟩, pk_un hj, if_pos h2]
          · rw [if_neg (by omega), pk_un hj, if_neg h2]
  refine gq_iload_n (pc := 0) dX12_sheet_0 rfl ?_
  refine gq_rS1i (pc := 1) dX12_sheet_1 cs_X12_203 (k_isSheet _) ⟨by decide, by decide⟩ (Nat.le_of_ble_eq_true rfl) ?_
  refine gq_if_eq (pc := 4) 29 dX12_sheet_4 (by decide) (fun h_4 => ?_) (fun h_4 => ?_)
  · exact absurd h_4 (p_in_le (N := 3) hs hS (by decide))
  · refine gq_iload_n (pc := 7) dX12_sheet_7 rfl ?_
    refine gq_if_eq (pc := 8) 36 dX12_sheet_8 (by decide) (fun h_8 => ?_) (fun h_8 => ?_)
    · exact absurd h_8 (by decide)
    · refine gq_iload_n (pc := 11) dX12_sheet_11 rfl ?_
      refine gq_bipush (pc := 12) dX12_sheet_12 kb_8 ?_
      refine gq_ic_eq (pc := 14) 36 dX12_sheet_14 (by decide) (fun h_14 => ?_) (fun h_14 => ?_)
      · refine gq_iload_n (pc := 36) dX12_sheet_36 rfl ?_
        refine gq_if_eq (pc := 37) 51 dX12_sheet_37 (by decide) (fun h_37 => ?_) (fun h_37 => ?_)
        · exact absurd h_37 (by decide)
        · refine gq_iload_n (pc := 40) dX12_sheet_40 rfl ?_
          refine gq_if_ge (pc := 41) 51 dX12_sheet_41 (by decide) (fun h_41 => ?_) (fun h_41 => ?_)
          · refine gq_iload_n (pc := 51) dX12_sheet_51 rfl ?_
            refine gq_if_eq (pc := 52) 68 dX12_sheet_52 (by decide) (fun h_52 => ?_) (fun h_52 => ?_)
            · exact absurd h_52 (by decide)
            · refine gq_iload_n (pc := 55) dX12_sheet_55 rfl ?_
              refine gq_bipush (pc := 56) dX12_sheet_56 kb_40 ?_
              refine gq_ic_le (pc := 58) 68 dX12_sheet_58 (by decide) (fun h_58 => ?_) (fun h_58 => ?_)
              · refine gq_aload_n (pc := 68) dX12_sheet_68 rfl ?_
                refine gq_getr (pc := 69) dX12_sheet_69 fl_X12_25_12 sh_76 rfl ?_
                refine gq_iload_n (pc := 72) dX12_sheet_72 rfl ?_
                refine gq_iload_n (pc := 73) dX12_sheet_73 rfl ?_
                refine qm_asto (pc := 74) dX12_sheet_74 sh_82 (by decide) hs (by first | decide | omega) (by decide) ?_
                refine gq_aload_n (pc := 75) dX12_sheet_75 rfl ?_
                refine gq_getr (pc := 76) dX12_sheet_76 fl_X12_28_12 sh_76 rfl ?_
                refine gq_iload_n (pc := 79) dX12_sheet_79 rfl ?_
                refine gq_iload_n (pc := 80) dX12_sheet_80 rfl ?_
                refine gq_if_ne (pc := 81) 88 dX12_sheet_81 (by decide) (fun h_81 => ?_) (fun h_81 => ?_)
                · refine gq_iload_n (pc := 88) dX12_sheet_88 rfl ?_
                  refine qm_asto (pc := 89) dX12_sheet_89 sh_83 (by decide) hs (by first | decide | omega) (by decide) ?_
                  refine gq_iconst (pc := 90) dX12_sheet_90 kc_0 ?_
                  refine gq_istore (pc := 91) (l' := [(4, _), (0, _), (1, _), (2, _), (3, _)]) dX12_sheet_91 (by decide) rfl ?_
                  refine gq_sub [0, 1, 2, 3, 4] rfl ?_
                  refine gq_tog ?_ (key 40 0 (by omega))
                  congr 1
                  funext q
                  by_cases hq : q = 84
                  · subst hq; rw [ge_row_self]; funext j; rw [if_neg (by omega), ge_up_row _ _ _ (by decide), ge_up_row _ _ _ (by decide)]
                  · rw [ge_row_ne _ _ hq]
                · exact absurd h_81 (by decide)
              · exact absurd (by rw [hm]; exact (nI_leI (b := 40) (by omega) (by decide)).mpr hm2) h_58
          · exact absurd (by rw [hm]; exact nI_pos' (by omega)) h_41
      · exact absurd h_14 (by decide)
set_option maxHeartbeats 400000 in
theorem c_sheet_ok16_0 {n : Int32} {m : Nat} (hm : n = nI m) (hm2 : m ≤ 40)  : ge_N X ge_SH YX11_sheet 2 [.ref (ge_ad X.1 0), .int 0, .int 16, .int n] (ge_k g 25 r x hb) (some (.int 1)) (ge_k (ge_row (ge_up (ge_up g 67 2 16) 67 1 n) 68 (fun j => if j < m then 0 else g 68 j)) 25 r x hb) := by
  refine gq_ofB (l := [(0, .ref (ge_ad X.1 0)), (1, .int 0), (2, .int 16), (3, .int n)]) (by decide) (Nat.le_of_ble_eq_true rfl) rfl ?_
  refine gq_iload_n (pc := 0) dX11_sheet_0 rfl ?_
  refine gq_rS1i (pc := 1) dX11_sheet_1 cs_X11_232 (c_noSheet _) ⟨by decide, by decide⟩ (Nat.le_of_ble_eq_true rfl) ?_
  refine gq_if_ne (pc := 4) 29 dX11_sheet_4 (by decide) (fun h_4 => ?_) (fun h_4 => ?_)
  · exact absurd h_4 (by decide)
  · refine gq_iload_n (pc := 7) dX11_sheet_7 rfl ?_
    refine gq_if_eq (pc := 8) 35 dX11_sheet_8 (by decide) (fun h_8 => ?_) (fun h_8 => ?_)
    · exact absurd h_8 (by decide)
    · refine gq_iload_n (pc := 11) dX11_sheet_11 rfl ?_
      refine gq_bipush (pc := 12) dX11_sheet_12 kb_8 ?_
      refine gq_ic_eq (pc := 14) 35 dX11_sheet_14 (by decide) (fun h_14 => ?_) (fun h_14 => ?_)
      · exact absurd h_14 (by decide)
      · refine gq_iload_n (pc := 17) dX11_sheet_17 rfl ?_
        refine gq_bipush (pc := 18) dX11_sheet_18 kb_16 ?_
        refine gq_ic_eq (pc := 20) 35 dX11_sheet_20 (by decide) (fun h_20 => ?_) (fun h_20 => ?_)
        · refine gq_iload_n (pc := 35) dX11_sheet_35 rfl ?_
          refine gq_if_eq (pc := 36) 49 dX11_sheet_36 (by decide) (fun h_36 => ?_) (fun h_36 => ?_)
          · exact absurd h_36 (by decide)
          · refine gq_iload_n (pc := 39) dX11_sheet_39 rfl ?_
            refine gq_if_ge (pc := 40) 49 dX11_sheet_40 (by decide) (fun h_40 => ?_) (fun h_40 => ?_)
            · refine gq_iload_n (pc := 49) dX11_sheet_49 rfl ?_
              refine gq_if_eq (pc := 50) 65 dX11_sheet_50 (by decide) (fun h_50 => ?_) (fun h_50 => ?_)
              · exact absurd h_50 (by decide)
              · refine gq_iload_n (pc := 53) dX11_sheet_53 rfl ?_
                refine gq_bipush (pc := 54) dX11_sheet_54 kb_40 ?_
                refine gq_ic_le (pc := 56) 65 dX11_sheet_56 (by decide) (fun h_56 => ?_) (fun h_56 => ?_)
                · refine gq_aload_n (pc := 65) dX11_sheet_65 rfl ?_
                  refine gq_getr (pc := 66) dX11_sheet_66 fl_X11_89_11 sh_0 rfl ?_
                  refine gq_iload_n (pc := 69) dX11_sheet_69 rfl ?_
                  refine gq_aald (pc := 70) dX11_sheet_70 sh_66 rfl kl_0 rfl (by decide) ?_
                  refine gq_iload_n (pc := 71) dX11_sheet_71 rfl ?_
                  refine gq_iload_n (pc := 72) dX11_sheet_72 rfl ?_
                  refine gq_if_ne (pc := 73) 80 dX11_sheet_73 (by decide) (fun h_73 => ?_) (fun h_73 => ?_)
                  · refine gq_iload_n (pc := 80) dX11_sheet_80 rfl ?_
                    refine gq_rV2v (pc := 81) dX11_sheet_81 cv_X11_300 sh_67 (r_clear_67 hm hm2) ⟨by decide, by decide⟩ rfl rfl (Nat.le_of_ble_eq_true rfl) ?_
                    refine gq_iconst (pc := 84) dX11_sheet_84 kc_1 ?_
                    exact gq_iret (pc := 85) rfl dX11_sheet_85 ⟨rfl, rfl⟩
                  · exact absurd h_73 (by decide)
                · exact absurd (by rw [hm]; exact (nI_leI (b := 40) (by omega) (by decide)).mpr hm2) h_56
            · exact absurd (by rw [hm]; exact nI_pos' (by omega)) h_40
        · exact absurd h_20 (by decide)
set_option maxHeartbeats 400000 in
theorem c_sheet_ok16_1 {n : Int32} {m : Nat} (hm : n = nI m) (hm2 : m ≤ 40)  : ge_N X ge_SH YX11_sheet 2 [.ref (ge_ad X.1 0), .int 1, .int 16, .int n] (ge_k g 25 r x hb) (some (.int 1)) (ge_k (ge_row (ge_up (ge_up g 69 2 16) 69 1 n) 70 (fun j => if j < m then 0 else g 70 j)) 25 r x hb) := by
  refine gq_ofB (l := [(0, .ref (ge_ad X.1 0)), (1, .int 1), (2, .int 16), (3, .int n)]) (by decide) (Nat.le_of_ble_eq_true rfl) rfl ?_
  refine gq_iload_n (pc := 0) dX11_sheet_0 rfl ?_
  refine gq_rS1i (pc := 1) dX11_sheet_1 cs_X11_232 (c_noSheet _) ⟨by decide, by decide⟩ (Nat.le_of_ble_eq_true rfl) ?_
  refine gq_if_ne (pc := 4) 29 dX11_sheet_4 (by decide) (fun h_4 => ?_) (fun h_4 => ?_)
  · exact absurd h_4 (by decide)
  · refine gq_iload_n (pc := 7) dX11_sheet_7 rfl ?_
    refine gq_if_eq (pc := 8) 35 dX11_sheet_8 (by decide) (fun h_8 => ?_) (fun h_8 => ?_)
    · exact absurd h_8 (by decide)
    · refine gq_iload_n (pc := 11) dX11_sheet_11 rfl ?_
      refine gq_bipush (pc := 12) dX11_sheet_12 kb_8 ?_
      refine gq_ic_eq (pc := 14) 35 dX11_sheet_14 (by decide) (fun h_14 => ?_) (fun h_14 => ?_)
      · exact absurd h_14 (by decide)
      · refine gq_iload_n (pc := 17) dX11_sheet_17 rfl ?_
        refine gq_bipush (pc := 18) dX11_sheet_18 kb_16 ?_
        refine gq_ic_eq (pc := 20) 35 dX11_sheet_20 (by decide) (fun h_20 => ?_) (fun h_20 => ?_)
        · refine gq_iload_n (pc := 35) dX11_sheet_35 rfl ?_
          refine gq_if_eq (pc := 36) 49 dX11_sheet_36 (by decide) (fun h_36 => ?_) (fun h_36 => ?_)
          · exact absurd h_36 (by decide)
          · refine gq_iload_n (pc := 39) dX11_sheet_39 rfl ?_
            refine gq_if_ge (pc := 40) 49 dX11_sheet_40 (by decide) (fun h_40 => ?_) (fun h_40 => ?_)
            · refine gq_iload_n (pc := 49) dX11_sheet_49 rfl ?_
              refine gq_if_eq (pc := 50) 65 dX11_sheet_50 (by decide) (fun h_50 => ?_) (fun h_50 => ?_)
              · exact absurd h_50 (by decide)
              · refine gq_iload_n (pc := 53) dX11_sheet_53 rfl ?_
                refine gq_bipush (pc := 54) dX11_sheet_54 kb_40 ?_
                refine gq_ic_le (pc := 56) 65 dX11_sheet_56 (by decide) (fun h_56 => ?_) (fun h_56 => ?_)
                · refine gq_aload_n (pc := 65) dX11_sheet_65 rfl ?_
                  refine gq_getr (pc := 66) dX11_sheet_66 fl_X11_89_11 sh_0 rfl ?_
                  refine gq_iload_n (pc := 69) dX11_sheet_69 rfl ?_
                  refine gq_aald (pc := 70) dX11_sheet_70 sh_66 rfl kl_1 rfl (by decide) ?_
                  refine gq_iload_n (pc := 71) dX11_sheet_71 rfl ?_
                  refine gq_iload_n (pc := 72) dX11_sheet_72 rfl ?_
                  refine gq_if_ne (pc := 73) 80 dX11_sheet_73 (by decide) (fun h_73 => ?_) (fun h_73 => ?_)
                  · refine gq_iload_n (pc := 80) dX11_sheet_80 rfl ?_
                    refine gq_rV2v (pc := 81) dX11_sheet_81 cv_X11_300 sh_69 (r_clear_69 hm hm2) ⟨by decide, by decide⟩ rfl rfl (Nat.le_of_ble_eq_true rfl) ?_
                    refine gq_iconst (pc := 84) dX11_sheet_84 kc_1 ?_
                    exact gq_iret (pc := 85) rfl dX11_sheet_85 ⟨rfl, rfl⟩
                  · exact absurd h_73 (by decide)
                · exact absurd (by rw [hm]; exact (nI_leI (b := 40) (by omega) (by decide)).mpr hm2) h_56
            · exact absurd (by rw [hm]; exact nI_pos' (by omega)) h_40
        · exact absurd h_20 (by decide)
set_option maxHeartbeats 400000 in
theorem c_sheet_ok16_2 {n : Int32} {m : Nat} (hm : n = nI m) (hm2 : m ≤ 40)  : ge_N X ge_SH YX11_sheet 2 [.ref (ge_ad X.1 0), .int 2, .int 16, .int n] (ge_k g 25 r x hb) (some (.int 1)) (ge_k (ge_row (ge_up (ge_up g 71 2 16) 71 1 n) 72 (fun j => if j < m then 0 else g 72 j)) 25 r x hb) := by
  refine gq_ofB (l := [(0, .ref (ge_ad X.1 0)), (1, .int 2), (2, .int 16), (3, .int n)]) (by decide) (Nat.le_of_ble_eq_true rfl) rfl ?_
  refine gq_iload_n (pc := 0) dX11_sheet_0 rfl ?_
  refine gq_rS1i (pc := 1) dX11_sheet_1 cs_X11_232 (c_noSheet _) ⟨by decide, by decide⟩ (Nat.le_of_ble_eq_true rfl) ?_
  refine gq_if_ne (pc := 4) 29 dX11_sheet_4 (by decide) (fun h_4 => ?_) (fun h_4 => ?_)
  · exact absurd h_4 (by decide)
  · refine gq_iload_n (pc := 7) dX11_sheet_7 rfl ?_
    refine gq_if_eq (pc := 8) 35 dX11_sheet_8 (by decide) (fun h_8 => ?_) (fun h_8 => ?_)
    · exact absurd h_8 (by decide)
    · refine gq_iload_n (pc := 11) dX11_sheet_11 rfl ?_
      refine gq_bipush (pc := 12) dX11_sheet_12 kb_8 ?_
      refine gq_ic_eq (pc := 14) 35 dX11_sheet_14 (by decide) (fun h_14 => ?_) (fun h_14 => ?_)
      · exact absurd h_14 (by decide)
      · refine gq_iload_n (pc := 17) dX11_sheet_17 rfl ?_
        refine gq_bipush (pc := 18) dX11_sheet_18 kb_16 ?_
        refine gq_ic_eq (pc := 20) 35 dX11_sheet_20 (by decide) (fun h_20 => ?_) (fun h_20 => ?_)
        · refine gq_iload_n (pc := 35) dX11_sheet_35 rfl ?_
          refine gq_if_eq (pc := 36) 49 dX11_sheet_36 (by decide) (fun h_36 => ?_) (fun h_36 => ?_)
          · exact absurd h_36 (by decide)
          · refine gq_iload_n (pc := 39) dX11_sheet_39 rfl ?_
            refine gq_if_ge (pc := 40) 49 dX11_sheet_40 (by decide) (fun h_40 => ?_) (fun h_40 => ?_)
            · refine gq_iload_n (pc := 49) dX11_sheet_49 rfl ?_
              refine gq_if_eq (pc := 50) 65 dX11_sheet_50 (by decide) (fun h_50 => ?_) (fun h_50 => ?_)
              · exact absurd h_50 (by decide)
              · refine gq_iload_n (pc := 53) dX11_sheet_53 rfl ?_
                refine gq_bipush (pc := 54) dX11_sheet_54 kb_40 ?_
                refine gq_ic_le (pc := 56) 65 dX11_sheet_56 (by decide) (fun h_56 => ?_) (fun h_56 => ?_)
                · refine gq_aload_n (pc := 65) dX11_sheet_65 rfl ?_
                  refine gq_getr (pc := 66) dX11_sheet_66 fl_X11_89_11 sh_0 rfl ?_
                  refine gq_iload_n (pc := 69) dX11_sheet_69 rfl ?_
                  refine gq_aald (pc := 70) dX11_sheet_70 sh_66 rfl kl_2 rfl (by decide) ?_
                  refine gq_iload_n (pc := 71) dX11_sheet_71 rfl ?_
                  refine gq_iload_n (pc := 72) dX11_sheet_72 rfl ?_
                  refine gq_if_ne (pc := 73) 80 dX11_sheet_73 (by decide) (fun h_73 => ?_) (fun h_73 => ?_)
                  · refine gq_iload_n (pc := 80) dX11_sheet_80 rfl ?_
                    refine gq_rV2v (pc := 81) dX11_sheet_81 cv_X11_300 sh_71 (r_clear_71 hm hm2) ⟨by decide, by decide⟩ rfl rfl (Nat.le_of_ble_eq_true rfl) ?_
                    refine gq_iconst (pc := 84) dX11_sheet_84 kc_1 ?_
                    exact gq_iret (pc := 85) rfl dX11_sheet_85 ⟨rfl, rfl⟩
                  · exact absurd h_73 (by decide)
                · exact absurd (by rw [hm]; exact (nI_leI (b := 40) (by omega) (by decide)).mpr hm2) h_56
            · exact absurd (by rw [hm]; exact nI_pos' (by omega)) h_40
        · exact absurd h_20 (by decide)
set_option maxHeartbeats 400000 in
theorem c_sheet_ok16_3 {n : Int32} {m : Nat} (hm : n = nI m) (hm2 : m ≤ 40)  : ge_N X ge_SH YX11_sheet 2 [.ref (ge_ad X.1 0), .int 3, .int 16, .int n] (ge_k g 25 r x hb) (some (.int 1)) (ge_k (ge_row (ge_up (ge_up g 73 2 16) 73 1 n) 74 (fun j => if j < m then 0 else g 74 j)) 25 r x hb) := by
  refine gq_ofB (l := [(0, .ref (ge_ad X.1 0)), (1, .int 3), (2, .int 16), (3, .int n)]) (by decide) (Nat.le_of_ble_eq_true rfl) rfl ?_
  refine gq_iload_n (pc := 0) dX11_sheet_0 rfl ?_
  refine gq_rS1i (pc := 1) dX11_sheet_1 cs_X11_232 (c_noSheet _) ⟨by decide, by decide⟩ (Nat.le_of_ble_eq_true rfl) ?_
  refine gq_if_ne (pc := 4) 29 dX11_sheet_4 (by decide) (fun h_4 => ?_) (fun h_4 => ?_)
  · exact absurd h_4 (by decide)
  · refine gq_iload_n (pc := 7) dX11_sheet_7 rfl ?_
    refine gq_if_eq (pc := 8) 35 dX11_sheet_8 (by decide) (fun h_8 => ?_) (fun h_8 => ?_)
    · exact absurd h_8 (by decide)
    · refine gq_iload_n (pc := 11) dX11_sheet_11 rfl ?_
      refine gq_bipush (pc := 12) dX11_sheet_12 kb_8 ?_
      refine gq_ic_eq (pc := 14) 35 dX11_sheet_14 (by decide) (fun h_14 => ?_) (fun h_14 => ?_)
      · exact absurd h_14 (by decide)
      · refine gq_iload_n (pc := 17) dX11_sheet_17 rfl ?_
        refine gq_bipush (pc := 18) dX11_sheet_18 kb_16 ?_
        refine gq_ic_eq (pc := 20) 35 dX11_sheet_20 (by decide) (fun h_20 => ?_) (fun h_20 => ?_)
        · refine gq_iload_n (pc := 35) dX11_sheet_35 rfl ?_
          refine gq_if_eq (pc := 36) 49 dX11_sheet_36 (by decide) (fun h_36 => ?_) (fun h_36 => ?_)
          · exact absurd h_36 (by decide)
          · refine gq_iload_n (pc := 39) dX11_sheet_39 rfl ?_
            refine gq_if_ge (pc := 40) 49 dX11_sheet_40 (by decide) (fun h_40 => ?_) (fun h_40 => ?_)
            · refine gq_iload_n (pc := 49) dX11_sheet_49 rfl ?_
              refine gq_if_eq (pc := 50) 65 dX11_sheet_50 (by decide) (fun h_50 => ?_) (fun h_50 => ?_)
              · exact absurd h_50 (by decide)
              · refine gq_iload_n (pc := 53) dX11_sheet_53 rfl ?_
                refine gq_bipush (pc := 54) dX11_sheet_54 kb_40 ?_
                refine gq_ic_le (pc := 56) 65 dX11_sheet_56 (by decide) (fun h_56 => ?_) (fun h_56 => ?_)
                · refine gq_aload_n (pc := 65) dX11_sheet_65 rfl ?_
                  refine gq_getr (pc := 66) dX11_sheet_66 fl_X11_89_11 sh_0 rfl ?_
                  refine gq_iload_n (pc := 69) dX11_sheet_69 rfl ?_
                  refine gq_aald (pc := 70) dX11_sheet_70 sh_66 rfl kl_3 rfl (by decide) ?_
                  refine gq_iload_n (pc := 71) dX11_sheet_71 rfl ?_
                  refine gq_iload_n (pc := 72) dX11_sheet_72 rfl ?_
                  refine gq_if_ne (pc := 73) 80 dX11_sheet_73 (by decide) (fun h_73 => ?_) (fun h_73 => ?_)
                  · refine gq_iload_n (pc := 80) dX11_sheet_80 rfl ?_
                    refine gq_rV2v (pc := 81) dX11_sheet_81 cv_X11_300 sh_73 (r_clear_73 hm hm2) ⟨by decide, by decide⟩ rfl rfl (Nat.le_of_ble_eq_true rfl) ?_
                    refine gq_iconst (pc := 84) dX11_sheet_84 kc_1 ?_
                    exact gq_iret (pc := 85) rfl dX11_sheet_85 ⟨rfl, rfl⟩
                  · exact absurd h_73 (by decide)
                · exact absurd (by rw [hm]; exact (nI_leI (b := 40) (by omega) (by decide)).mpr hm2) h_56
            · exact absurd (by rw [hm]; exact nI_pos' (by omega)) h_40
        · exact absurd h_20 (by decide)
set_option maxHeartbeats 1000000 in
theorem m_sheet_ok16 {s : Int32} {S : Nat} (hs : s = nI S) (hS : S ≤ 3) {n : Int32} {m : Nat} (hm : n = nI m) (hm2 : m ≤ 40)  : ge_N X ge_SH YX12_sheet 2 [.ref (ge_ad X.1 76), .int s, .int 16, .int n] (ge_m g r f) (some (.int 1)) (ge_m (ge_row (ge_up (ge_up g 82 S 16) 83 S n) 84 (fun j => if 40 * S ≤ j ∧ j < 40 * S + 40 then 0 else g 84 j)) r f) := by
  refine gq_ofB (l := [(0, .ref (ge_ad X.1 76)), (1, .int s), (2, .int 16), (3, .int n)]) (by decide) (Nat.le_of_ble_eq_true rfl) rfl ?_
  have key : ∀ (m i : Nat), i + m = 40 → ge_B X ge_SH YX12_sheet 2 (fun v2 g2 => v2 = (some (.int 1)) ∧ g2 = (ge_m (ge_row (ge_up (ge_up g 82 S 16) 83 S n) 84 (fun j => if 40 * S ≤ j ∧ j < 40 * S + 40 then 0 else g 84 j)) r f)) 93 [(4, .int (nI i)), (0, .ref (ge_ad X.1 76)), (1, .int s), (2, .int 16), (3, .int n)] [] (ge_m (ge_row (ge_up (ge_up g 82 S 16) 83 S n) 84 (fun j => if 40 * S ≤ j ∧ j < 40 * S + i then 0 else g 84 j)) r f) := by
    intro m
    induction m with
    | zero =>
      intro i hi
      obtain rfl : i = 40 := hi
      refine gq_iload (pc := 93) dX12_sheet_93 rfl ?_
      refine gq_bipush (pc := 95) dX12_sheet_95 kb_40 ?_
      refine gq_ic_ge (pc := 97) 119 dX12_sheet_97 (by decide) (fun h_97 => ?_) (fun h_97 => ?_)
      · refine gq_iconst (pc := 119) dX12_sheet_119 kc_1 ?_
        exact gq_iret (pc := 120) rfl dX12_sheet_120 ⟨rfl, rfl⟩
      · exact absurd (by first | exact Int32.le_refl _ | (rw [None]; exact Int32.le_refl _)) h_97
    | succ m ih =>
      intro i hi
      refine gq_iload (pc := 93) dX12_sheet_93 rfl ?_
      refine gq_bipush (pc := 95) dX12_sheet_95 kb_40 ?_
      refine gq_ic_ge (pc := 97) 119 dX12_sheet_97 (by decide) (fun h_97 => ?_) (fun h_97 => ?_)
      · skip
        exact absurd ((nI_leI (a := 40) (b := i) (by omega) (by omega)).mp h_97) (by omega)
      · refine gq_aload_n (pc := 100) dX12_sheet_100 rfl ?_
        refine gq_getr (pc := 101) dX12_sheet_101 fl_X12_31_12 sh_76 rfl ?_
        refine gq_bipush (pc := 104) dX12_sheet_104 kb_40 ?_
        refine gq_iload_n (pc := 106) dX12_sheet_106 rfl ?_
        refine gq_imul (pc := 107) dX12_sheet_107 ?_
        refine gq_iload (pc := 108) dX12_sheet_108 rfl ?_
        refine gq_iadd (pc := 110) dX12_sheet_110 ?_
        refine gq_iconst (pc := 111) dX12_sheet_111 kc_0 ?_
        refine qm_asto (pc := 112) dX12_sheet_112 sh_84 (by decide) (by rw [hs, show (40 : Int32) * nI S = nI (40 * S) from pk_mul 40 S, nI_add]) (by first | decide | omega) (by decide) ?_
        refine gq_iinc (pc := 113) (l' := [(4, _), (0, _), (1, _), (2, _), (3, _)]) dX12_sheet_113 rfl (ge_inc1 i) (by decide) rfl ?_
        refine gq_goto (pc := 116) 93 dX12_sheet_116 (by decide) ?_
        refine gq_sub [0, 1, 2, 3, 4] rfl ?_
        refine gq_tog ?_ (ih (i + 1) (by omega))
        rw [ge_up17]
        congr 2
        funext j
        show (if 40 * S ≤ j ∧ j < 40 * S + (i + 1) then (0 : Int32) else g 84 j) = upd (fun j => if 40 * S ≤ j ∧ j < 40 * S + i then 0 else g 84 j) (40 * S + i) 0 j
        by_cases hj : j = 40 * S + i
        · subst hj; simp [upd]
        · by_cases h2 : 40 * S ≤ j ∧ j < 40 * S + i
          · rw [if_pos ⟨h2.1, by omega⟩, pk_un hj, if_pos h2]
          · rw [if_neg (by omega), pk_un hj, if_neg h2]
  refine gq_iload_n (pc := 0) dX12_sheet_0 rfl ?_
  refine gq_rS1i (pc := 1) dX12_sheet_1 cs_X12_203 (k_isSheet _) ⟨by decide, by decide⟩ (Nat.le_of_ble_eq_true rfl) ?_
  refine gq_if_eq (pc := 4) 29 dX12_sheet_4 (by decide) (fun h_4 => ?_) (fun h_4 => ?_)
  · exact absurd h_4 (p_in_le (N := 3) hs hS (by decide))
  · refine gq_iload_n (pc := 7) dX12_sheet_7 rfl ?_
    refine gq_if_eq (pc := 8) 36 dX12_sheet_8 (by decide) (fun h_8 => ?_) (fun h_8 => ?_)
    · exact absurd h_8 (by decide)
    · refine gq_iload_n (pc := 11) dX12_sheet_11 rfl ?_
      refine gq_bipush (pc := 12) dX12_sheet_12 kb_8 ?_
      refine gq_ic_eq (pc := 14) 36 dX12_sheet_14 (by decide) (fun h_14 => ?_) (fun h_14 => ?_)
      · exact absurd h_14 (by decide)
      · refine gq_iload_n (pc := 17) dX12_sheet_17 rfl ?_
        refine gq_bipush (pc := 18) dX12_sheet_18 kb_16 ?_
        refine gq_ic_eq (pc := 20) 36 dX12_sheet_20 (by decide) (fun h_20 => ?_) (fun h_20 => ?_)
        · refine gq_iload_n (pc := 36) dX12_sheet_36 rfl ?_
          refine gq_if_eq (pc := 37) 51 dX12_sheet_37 (by decide) (fun h_37 => ?_) (fun h_37 => ?_)
          · exact absurd h_37 (by decide)
          · refine gq_iload_n (pc := 40) dX12_sheet_40 rfl ?_
            refine gq_if_ge (pc := 41) 51 dX12_sheet_41 (by decide) (fun h_41 => ?_) (fun h_41 => ?_)
            · refine gq_iload_n (pc := 51) dX12_sheet_51 rfl ?_
              refine gq_if_eq (pc := 52) 68 dX12_sheet_52 (by decide) (fun h_52 => ?_) (fun h_52 => ?_)
              · exact absurd h_52 (by decide)
              · refine gq_iload_n (pc := 55) dX12_sheet_55 rfl ?_
                refine gq_bipush (pc := 56) dX12_sheet_56 kb_40 ?_
                refine gq_ic_le (pc := 58) 68 dX12_sheet_58 (by decide) (fun h_58 => ?_) (fun h_58 => ?_)
                · refine gq_aload_n (pc := 68) dX12_sheet_68 rfl ?_
                  refine gq_getr (pc := 69) dX12_sheet_69 fl_X12_25_12 sh_76 rfl ?_
                  refine gq_iload_n (pc := 72) dX12_sheet_72 rfl ?_
                  refine gq_iload_n (pc := 73) dX12_sheet_73 rfl ?_
                  refine qm_asto (pc := 74) dX12_sheet_74 sh_82 (by decide) hs (by first | decide | omega) (by decide) ?_
                  refine gq_aload_n (pc := 75) dX12_sheet_75 rfl ?_
                  refine gq_getr (pc := 76) dX12_sheet_76 fl_X12_28_12 sh_76 rfl ?_
                  refine gq_iload_n (pc := 79) dX12_sheet_79 rfl ?_
                  refine gq_iload_n (pc := 80) dX12_sheet_80 rfl ?_
                  refine gq_if_ne (pc := 81) 88 dX12_sheet_81 (by decide) (fun h_81 => ?_) (fun h_81 => ?_)
                  · refine gq_iload_n (pc := 88) dX12_sheet_88 rfl ?_
                    refine qm_asto (pc := 89) dX12_sheet_89 sh_83 (by decide) hs (by first | decide | omega) (by decide) ?_
                    refine gq_iconst (pc := 90) dX12_sheet_90 kc_0 ?_
                    refine gq_istore (pc := 91) (l' := [(4, _), (0, _), (1, _), (2, _), (3, _)]) dX12_sheet_91 (by decide) rfl ?_
                    refine gq_sub [0, 1, 2, 3, 4] rfl ?_
                    refine gq_tog ?_ (key 40 0 (by omega))
                    congr 1
                    funext q
                    by_cases hq : q = 84
                    · subst hq; rw [ge_row_self]; funext j; rw [if_neg (by omega), ge_up_row _ _ _ (by decide), ge_up_row _ _ _ (by decide)]
                    · rw [ge_row_ne _ _ hq]
                  · exact absurd h_81 (by decide)
                · exact absurd (by rw [hm]; exact (nI_leI (b := 40) (by omega) (by decide)).mpr hm2) h_58
            · exact absurd (by rw [hm]; exact nI_pos' (by omega)) h_41
        · exact absurd h_20 (by decide)
set_option maxHeartbeats 400000 in
theorem c_sheet_ok32_0 {n : Int32} {m : Nat} (hm : n = nI m) (hm2 : m ≤ 40)  : ge_N X ge_SH YX11_sheet 2 [.ref (ge_ad X.1 0), .int 0, .int 32, .int n] (ge_k g 25 r x hb) (some (.int 1)) (ge_k (ge_row (ge_up (ge_up g 67 2 32) 67 1 n) 68 (fun j => if j < m then 0 else g 68 j)) 25 r x hb) := by
  refine gq_ofB (l := [(0, .ref (ge_ad X.1 0)), (1, .int 0), (2, .int 32), (3, .int n)]) (by decide) (Nat.le_of_ble_eq_true rfl) rfl ?_
  refine gq_iload_n (pc := 0) dX11_sheet_0 rfl ?_
  refine gq_rS1i (pc := 1) dX11_sheet_1 cs_X11_232 (c_noSheet _) ⟨by decide, by decide⟩ (Nat.le_of_ble_eq_true rfl) ?_
  refine gq_if_ne (pc := 4) 29 dX11_sheet_4 (by decide) (fun h_4 => ?_) (fun h_4 => ?_)
  · exact absurd h_4 (by decide)
  · refine gq_iload_n (pc := 7) dX11_sheet_7 rfl ?_
    refine gq_if_eq (pc := 8) 35 dX11_sheet_8 (by decide) (fun h_8 => ?_) (fun h_8 => ?_)
    · exact absurd h_8 (by decide)
    · refine gq_iload_n (pc := 11) dX11_sheet_11 rfl ?_
      refine gq_bipush (pc := 12) dX11_sheet_12 kb_8 ?_
      refine gq_ic_eq (pc := 14) 35 dX11_sheet_14 (by decide) (fun h_14 => ?_) (fun h_14 => ?_)
      · exact absurd h_14 (by decide)
      · refine gq_iload_n (pc := 17) dX11_sheet_17 rfl ?_
        refine gq_bipush (pc := 18) dX11_sheet_18 kb_16 ?_
        refine gq_ic_eq (pc := 20) 35 dX11_sheet_20 (by decide) (fun h_20 => ?_) (fun h_20 => ?_)
        · exact absurd h_20 (by decide)
        · refine gq_iload_n (pc := 23) dX11_sheet_23 rfl ?_
          refine gq_bipush (pc := 24) dX11_sheet_24 kb_32 ?_
          refine gq_ic_eq (pc := 26) 35 dX11_sheet_26 (by decide) (fun h_26 => ?_) (fun h_26 => ?_)
          · refine gq_iload_n (pc := 35) dX11_sheet_35 rfl ?_
            refine gq_if_eq (pc := 36) 49 dX11_sheet_36 (by decide) (fun h_36 => ?_) (fun h_36 => ?_)
            · exact absurd h_36 (by decide)
            · refine gq_iload_n (pc := 39) dX11_sheet_39 rfl ?_
              refine gq_if_ge (pc := 40) 49 dX11_sheet_40 (by decide) (fun h_40 => ?_) (fun h_40 => ?_)
              · refine gq_iload_n (pc := 49) dX11_sheet_49 rfl ?_
                refine gq_if_eq (pc := 50) 65 dX11_sheet_50 (by decide) (fun h_50 => ?_) (fun h_50 => ?_)
                · exact absurd h_50 (by decide)
                · refine gq_iload_n (pc := 53) dX11_sheet_53 rfl ?_
                  refine gq_bipush (pc := 54) dX11_sheet_54 kb_40 ?_
                  refine gq_ic_le (pc := 56) 65 dX11_sheet_56 (by decide) (fun h_56 => ?_) (fun h_56 => ?_)
                  · refine gq_aload_n (pc := 65) dX11_sheet_65 rfl ?_
                    refine gq_getr (pc := 66) dX11_sheet_66 fl_X11_89_11 sh_0 rfl ?_
                    refine gq_iload_n (pc := 69) dX11_sheet_69 rfl ?_
                    refine gq_aald (pc := 70) dX11_sheet_70 sh_66 rfl kl_0 rfl (by decide) ?_
                    refine gq_iload_n (pc := 71) dX11_sheet_71 rfl ?_
                    refine gq_iload_n (pc := 72) dX11_sheet_72 rfl ?_
                    refine gq_if_ne (pc := 73) 80 dX11_sheet_73 (by decide) (fun h_73 => ?_) (fun h_73 => ?_)
                    · refine gq_iload_n (pc := 80) dX11_sheet_80 rfl ?_
                      refine gq_rV2v (pc := 81) dX11_sheet_81 cv_X11_300 sh_67 (r_clear_67 hm hm2) ⟨by decide, by decide⟩ rfl rfl (Nat.le_of_ble_eq_true rfl) ?_
                      refine gq_iconst (pc := 84) dX11_sheet_84 kc_1 ?_
                      exact gq_iret (pc := 85) rfl dX11_sheet_85 ⟨rfl, rfl⟩
                    · exact absurd h_73 (by decide)
                  · exact absurd (by rw [hm]; exact (nI_leI (b := 40) (by omega) (by decide)).mpr hm2) h_56
              · exact absurd (by rw [hm]; exact nI_pos' (by omega)) h_40
          · exact absurd h_26 (by decide)
set_option maxHeartbeats 400000 in
theorem c_sheet_ok32_1 {n : Int32} {m : Nat} (hm : n = nI m) (hm2 : m ≤ 40)  : ge_N X ge_SH YX11_sheet 2 [.ref (ge_ad X.1 0), .int 1, .int 32, .int n] (ge_k g 25 r x hb) (some (.int 1)) (ge_k (ge_row (ge_up (ge_up g 69 2 32) 69 1 n) 70 (fun j => if j < m then 0 else g 70 j)) 25 r x hb) := by
  refine gq_ofB (l := [(0, .ref (ge_ad X.1 0)), (1, .int 1), (2, .int 32), (3, .int n)]) (by decide) (Nat.le_of_ble_eq_true rfl) rfl ?_
  refine gq_iload_n (pc := 0) dX11_sheet_0 rfl ?_
  refine gq_rS1i (pc := 1) dX11_sheet_1 cs_X11_232 (c_noSheet _) ⟨by decide, by decide⟩ (Nat.le_of_ble_eq_true rfl) ?_
  refine gq_if_ne (pc := 4) 29 dX11_sheet_4 (by decide) (fun h_4 => ?_) (fun h_4 => ?_)
  · exact absurd h_4 (by decide)
  · refine gq_iload_n (pc := 7) dX11_sheet_7 rfl ?_
    refine gq_if_eq (pc := 8) 35 dX11_sheet_8 (by decide) (fun h_8 => ?_) (fun h_8 => ?_)
    · exact absurd h_8 (by decide)
    · refine gq_iload_n (pc := 11) dX11_sheet_11 rfl ?_
      refine gq_bipush (pc := 12) dX11_sheet_12 kb_8 ?_
      refine gq_ic_eq (pc := 14) 35 dX11_sheet_14 (by decide) (fun h_14 => ?_) (fun h_14 => ?_)
      · exact absurd h_14 (by decide)
      · refine gq_iload_n (pc := 17) dX11_sheet_17 rfl ?_
        refine gq_bipush (pc := 18) dX11_sheet_18 kb_16 ?_
        refine gq_ic_eq (pc := 20) 35 dX11_sheet_20 (by decide) (fun h_20 => ?_) (fun h_20 => ?_)
        · exact absurd h_20 (by decide)
        · refine gq_iload_n (pc := 23) dX11_sheet_23 rfl ?_
          refine gq_bipush (pc := 24) dX11_sheet_24 kb_32 ?_
          refine gq_ic_eq (pc := 26) 35 dX11_sheet_26 (by decide) (fun h_26 => ?_) (fun h_26 => ?_)
          · refine gq_iload_n (pc := 35) dX11_sheet_35 rfl ?_
            refine gq_if_eq (pc := 36) 49 dX11_sheet_36 (by decide) (fun h_36 => ?_) (fun h_36 => ?_)
            · exact absurd h_36 (by decide)
            · refine gq_iload_n (pc := 39) dX11_sheet_39 rfl ?_
              refine gq_if_ge (pc := 40) 49 dX11_sheet_40 (by decide) (fun h_40 => ?_) (fun h_40 => ?_)
              · refine gq_iload_n (pc := 49) dX11_sheet_49 rfl ?_
                refine gq_if_eq (pc := 50) 65 dX11_sheet_50 (by decide) (fun h_50 => ?_) (fun h_50 => ?_)
                · exact absurd h_50 (by decide)
                · refine gq_iload_n (pc := 53) dX11_sheet_53 rfl ?_
                  refine gq_bipush (pc := 54) dX11_sheet_54 kb_40 ?_
                  refine gq_ic_le (pc := 56) 65 dX11_sheet_56 (by decide) (fun h_56 => ?_) (fun h_56 => ?_)
                  · refine gq_aload_n (pc := 65) dX11_sheet_65 rfl ?_
                    refine gq_getr (pc := 66) dX11_sheet_66 fl_X11_89_11 sh_0 rfl ?_
                    refine gq_iload_n (pc := 69) dX11_sheet_69 rfl ?_
                    refine gq_aald (pc := 70) dX11_sheet_70 sh_66 rfl kl_1 rfl (by decide) ?_
                    refine gq_iload_n (pc := 71) dX11_sheet_71 rfl ?_
                    refine gq_iload_n (pc := 72) dX11_sheet_72 rfl ?_
                    refine gq_if_ne (pc := 73) 80 dX11_sheet_73 (by decide) (fun h_73 => ?_) (fun h_73 => ?_)
                    · refine gq_iload_n (pc := 80) dX11_sheet_80 rfl ?_
                      refine gq_rV2v (pc := 81) dX11_sheet_81 cv_X11_300 sh_69 (r_clear_69 hm hm2) ⟨by decide, by decide⟩ rfl rfl (Nat.le_of_ble_eq_true rfl) ?_
                      refine gq_iconst (pc := 84) dX11_sheet_84 kc_1 ?_
                      exact gq_iret (pc := 85) rfl dX11_sheet_85 ⟨rfl, rfl⟩
                    · exact absurd h_73 (by decide)
                  · exact absurd (by rw [hm]; exact (nI_leI (b := 40) (by omega) (by decide)).mpr hm2) h_56
              · exact absurd (by rw [hm]; exact nI_pos' (by omega)) h_40
          · exact absurd h_26 (by decide)
set_option maxHeartbeats 400000 in
theorem c_sheet_ok32_2 {n : Int32} {m : Nat} (hm : n = nI m) (hm2 : m ≤ 40)  : ge_N X ge_SH YX11_sheet 2 [.ref (ge_ad X.1 0), .int 2, .int 32, .int n] (ge_k g 25 r x hb) (some (.int 1)) (ge_k (ge_row (ge_up (ge_up g 71 2 32) 71 1 n) 72 (fun j => if j < m then 0 else g 72 j)) 25 r x hb) := by
  refine gq_ofB (l := [(0, .ref (ge_ad X.1 0)), (1, .int 2), (2, .int 32), (3, .int n)]) (by decide) (Nat.le_of_ble_eq_true rfl) rfl ?_
  refine gq_iload_n (pc := 0) dX11_sheet_0 rfl ?_
  refine gq_rS1i (pc := 1) dX11_sheet_1 cs_X11_232 (c_noSheet _) ⟨by decide, by decide⟩ (Nat.le_of_ble_eq_true rfl) ?_
  refine gq_if_ne (pc := 4) 29 dX11_sheet_4 (by decide) (fun h_4 => ?_) (fun h_4 => ?_)
  · exact absurd h_4 (by decide)
  · refine gq_iload_n (pc := 7) dX11_sheet_7 rfl ?_
    refine gq_if_eq (pc := 8) 35 dX11_sheet_8 (by decide) (fun h_8 => ?_) (fun h_8 => ?_)
    · exact absurd h_8 (by decide)
    · refine gq_iload_n (pc := 11) dX11_sheet_11 rfl ?_
      refine gq_bipush (pc := 12) dX11_sheet_12 kb_8 ?_
      refine gq_ic_eq (pc := 14) 35 dX11_sheet_14 (by decide) (fun h_14 => ?_) (fun h_14 => ?_)
      · exact absurd h_14 (by decide)
      · refine gq_iload_n (pc := 17) dX11_sheet_17 rfl ?_
        refine gq_bipush (pc := 18) dX11_sheet_18 kb_16 ?_
        refine gq_ic_eq (pc := 20) 35 dX11_sheet_20 (by decide) (fun h_20 => ?_) (fun h_20 => ?_)
        · exact absurd h_20 (by decide)
        · refine gq_iload_n (pc := 23) dX11_sheet_23 rfl ?_
          refine gq_bipush (pc := 24) dX11_sheet_24 kb_32 ?_
          refine gq_ic_eq (pc := 26) 35 dX11_sheet_26 (by decide) (fun h_26 => ?_) (fun h_26 => ?_)
          · refine gq_iload_n (pc := 35) dX11_sheet_35 rfl ?_
            refine gq_if_eq (pc := 36) 49 dX11_sheet_36 (by decide) (fun h_36 => ?_) (fun h_36 => ?_)
            · exact absurd h_36 (by decide)
            · refine gq_iload_n (pc := 39) dX11_sheet_39 rfl ?_
              refine gq_if_ge (pc := 40) 49 dX11_sheet_40 (by decide) (fun h_40 => ?_) (fun h_40 => ?_)
              · refine gq_iload_n (pc := 49) dX11_sheet_49 rfl ?_
                refine gq_if_eq (pc := 50) 65 dX11_sheet_50 (by decide) (fun h_50 => ?_) (fun h_50 => ?_)
                · exact absurd h_50 (by decide)
                · refine gq_iload_n (pc := 53) dX11_sheet_53 rfl ?_
                  refine gq_bipush (pc := 54) dX11_sheet_54 kb_40 ?_
                  refine gq_ic_le (pc := 56) 65 dX11_sheet_56 (by decide) (fun h_56 => ?_) (fun h_56 => ?_)
                  · refine gq_aload_n (pc := 65) dX11_sheet_65 rfl ?_
                    refine gq_getr (pc := 66) dX11_sheet_66 fl_X11_89_11 sh_0 rfl ?_
                    refine gq_iload_n (pc := 69) dX11_sheet_69 rfl ?_
                    refine gq_aald (pc := 70) dX11_sheet_70 sh_66 rfl kl_2 rfl (by decide) ?_
                    refine gq_iload_n (pc := 71) dX11_sheet_71 rfl ?_
                    refine gq_iload_n (pc := 72) dX11_sheet_72 rfl ?_
                    refine gq_if_ne (pc := 73) 80 dX11_sheet_73 (by decide) (fun h_73 => ?_) (fun h_73 => ?_)
                    · refine gq_iload_n (pc := 80) dX11_sheet_80 rfl ?_
                      refine gq_rV2v (pc := 81) dX11_sheet_81 cv_X11_300 sh_71 (r_clear_71 hm hm2) ⟨by decide, by decide⟩ rfl rfl (Nat.le_of_ble_eq_true rfl) ?_
                      refine gq_iconst (pc := 84) dX11_sheet_84 kc_1 ?_
                      exact gq_iret (pc := 85) rfl dX11_sheet_85 ⟨rfl, rfl⟩
                    · exact absurd h_73 (by decide)
                  · exact absurd (by rw [hm]; exact (nI_leI (b := 40) (by omega) (by decide)).mpr hm2) h_56
              · exact absurd (by rw [hm]; exact nI_pos' (by omega)) h_40
          · exact absurd h_26 (by decide)
set_option maxHeartbeats 400000 in
theorem c_sheet_ok32_3 {n : Int32} {m : Nat} (hm : n = nI m) (hm2 : m ≤ 40)  : ge_N X ge_SH YX11_sheet 2 [.ref (ge_ad X.1 0), .int 3, .int 32, .int n] (ge_k g 25 r x hb) (some (.int 1)) (ge_k (ge_row (ge_up (ge_up g 73 2 32) 73 1 n) 74 (fun j => if j < m then 0 else g 74 j)) 25 r x hb) := by
  refine gq_ofB (l := [(0, .ref (ge_ad X.1 0)), (1, .int 3), (2, .int 32), (3, .int n)]) (by decide) (Nat.le_of_ble_eq_true rfl) rfl ?_
  refine gq_iload_n (pc := 0) dX11_sheet_0 rfl ?_
  refine gq_rS1i (pc := 1) dX11_sheet_1 cs_X11_232 (c_noSheet _) ⟨by decide, by decide⟩ (Nat.le_of_ble_eq_true rfl) ?_
  refine gq_if_ne (pc := 4) 29 dX11_sheet_4 (by decide) (fun h_4 => ?_) (fun h_4 => ?_)
  · exact absurd h_4 (by decide)
  · refine gq_iload_n (pc := 7) dX11_sheet_7 rfl ?_
    refine gq_if_eq (pc := 8) 35 dX11_sheet_8 (by decide) (fun h_8 => ?_) (fun h_8 => ?_)
    · exact absurd h_8 (by decide)
    · refine gq_iload_n (pc := 11) dX11_sheet_11 rfl ?_
      refine gq_bipush (pc := 12) dX11_sheet_12 kb_8 ?_
      refine gq_ic_eq (pc := 14) 35 dX11_sheet_14 (by decide) (fun h_14 => ?_) (fun h_14 => ?_)
      · exact absurd h_14 (by decide)
      · refine gq_iload_n (pc := 17) dX11_sheet_17 rfl ?_
        refine gq_bipush (pc := 18) dX11_sheet_18 kb_16 ?_
        refine gq_ic_eq (pc := 20) 35 dX11_sheet_20 (by decide) (fun h_20 => ?_) (fun h_20 => ?_)
        · exact absurd h_20 (by decide)
        · refine gq_iload_n (pc := 23) dX11_sheet_23 rfl ?_
          refine gq_bipush (pc := 24) dX11_sheet_24 kb_32 ?_
          refine gq_ic_eq (pc := 26) 35 dX11_sheet_26 (by decide) (fun h_26 => ?_) (fun h_26 => ?_)
          · refine gq_iload_n (pc := 35) dX11_sheet_35 rfl ?_
            refine gq_if_eq (pc := 36) 49 dX11_sheet_36 (by decide) (fun h_36 => ?_) (fun h_36 => ?_)
            · exact absurd h_36 (by decide)
            · refine gq_iload_n (pc := 39) dX11_sheet_39 rfl ?_
              refine gq_if_ge (pc := 40) 49 dX11_sheet_40 (by decide) (fun h_40 => ?_) (fun h_40 => ?_)
              · refine gq_iload_n (pc := 49) dX11_sheet_49 rfl ?_
                refine gq_if_eq (pc := 50) 65 dX11_sheet_50 (by decide) (fun h_50 => ?_) (fun h_50 => ?_)
                · exact absurd h_50 (by decide)
                · refine gq_iload_n (pc := 53) dX11_sheet_53 rfl ?_
                  refine gq_bipush (pc := 54) dX11_sheet_54 kb_40 ?_
                  refine gq_ic_le (pc := 56) 65 dX11_sheet_56 (by decide) (fun h_56 => ?_) (fun h_56 => ?_)
                  · refine gq_aload_n (pc := 65) dX11_sheet_65 rfl ?_
                    refine gq_getr (pc := 66) dX11_sheet_66 fl_X11_89_11 sh_0 rfl ?_
                    refine gq_iload_n (pc := 69) dX11_sheet_69 rfl ?_
                    refine gq_aald (pc := 70) dX11_sheet_70 sh_66 rfl kl_3 rfl (by decide) ?_
                    refine gq_iload_n (pc := 71) dX11_sheet_71 rfl ?_
                    refine gq_iload_n (pc := 72) dX11_sheet_72 rfl ?_
                    refine gq_if_ne (pc := 73) 80 dX11_sheet_73 (by decide) (fun h_73 => ?_) (fun h_73 => ?_)
                    · refine gq_iload_n (pc := 80) dX11_sheet_80 rfl ?_
                      refine gq_rV2v (pc := 81) dX11_sheet_81 cv_X11_300 sh_73 (r_clear_73 hm hm2) ⟨by decide, by decide⟩ rfl rfl (Nat.le_of_ble_eq_true rfl) ?_
                      refine gq_iconst (pc := 84) dX11_sheet_84 kc_1 ?_
                      exact gq_iret (pc := 85) rfl dX11_sheet_85 ⟨rfl, rfl⟩
                    · exact absurd h_73 (by decide)
                  · exact absurd (by rw [hm]; exact (nI_leI (b := 40) (by omega) (by decide)).mpr hm2) h_56
              · exact absurd (by rw [hm]; exact nI_pos' (by omega)) h_40
          · exact absurd h_26 (by decide)
set_option maxHeartbeats 1000000 in
theorem m_sheet_ok32 {s : Int32} {S : Nat} (hs : s = nI S) (hS : S ≤ 3) {n : Int32} {m : Nat} (hm : n = nI m) (hm2 : m ≤ 40)  : ge_N X ge_SH YX12_sheet 2 [.ref (ge_ad X.1 76), .int s, .int 32, .int n] (ge_m g r f) (some (.int 1)) (ge_m (ge_row (ge_up (ge_up g 82 S 32) 83 S n) 84 (fun j => if 40 * S ≤ j ∧ j < 40 * S + 40 then 0 else g 84 j)) r f) := by
  refine gq_ofB (l := [(0, .ref (ge_ad X.1 76)), (1, .int s), (2, .int 32), (3, .int n)]) (by decide) (Nat.le_of_ble_eq_true rfl) rfl ?_
  have key : ∀ (m i : Nat), i + m = 40 → ge_B X ge_SH YX12_sheet 2 (fun v2 g2 => v2 = (some (.int 1)) ∧ g2 = (ge_m (ge_row (ge_up (ge_up g 82 S 32) 83 S n) 84 (fun j => if 40 * S ≤ j ∧ j < 40 * S + 40 then 0 else g 84 j)) r f)) 93 [(4, .int (nI i)), (0, .ref (ge_ad X.1 76)), (1, .int s), (2, .int 32), (3, .int n)] [] (ge_m (ge_row (ge_up (ge_up g 82 S 32) 83 S n) 84 (fun j => if 40 * S ≤ j ∧ j < 40 * S + i then 0 else g 84 j)) r f) := by
    intro m
    induction m with
    | zero =>
      intro i hi
      obtain rfl : i = 40 := hi
      refine gq_iload (pc := 93) dX12_sheet_93 rfl ?_
      refine gq_bipush (pc := 95) dX12_sheet_95 kb_40 ?_
      refine gq_ic_ge (pc := 97) 119 dX12_sheet_97 (by decide) (fun h_97 => ?_) (fun h_97 => ?_)
      · refine gq_iconst (pc := 119) dX12_sheet_119 kc_1 ?_
        exact gq_iret (pc := 120) rfl dX12_sheet_120 ⟨rfl, rfl⟩
      · exact absurd (by first | exact Int32.le_refl _ | (rw [None]; exact Int32.le_refl _)) h_97
    | succ m ih =>
      intro i hi
      refine gq_iload (pc := 93) dX12_sheet_93 rfl ?_
      refine gq_bipush (pc := 95) dX12_sheet_95 kb_40 ?_
      refine gq_ic_ge (pc := 97) 119 dX12_sheet_97 (by decide) (fun h_97 => ?_) (fun h_97 => ?_)
      · skip
        exact absurd ((nI_leI (a := 40) (b := i) (by omega) (by omega)).mp h_97) (by omega)
      · refine gq_aload_n (pc := 100) dX12_sheet_100 rfl ?_
        refine gq_getr (pc := 101) dX12_sheet_101 fl_X12_31_12 sh_76 rfl ?_
        refine gq_bipush (pc := 104) dX12_sheet_104 kb_40 ?_
        refine gq_iload_n (pc := 106) dX12_sheet_106 rfl ?_
        refine gq_imul (pc := 107) dX12_sheet_107 ?_
        refine gq_iload (pc := 108) dX12_sheet_108 rfl ?_
        refine gq_iadd (pc := 110) dX12_sheet_110 ?_
        refine gq_iconst (pc := 111) dX12_sheet_111 kc_0 ?_
        refine qm_asto (pc := 112) dX12_sheet_112 sh_84 (by decide) (by rw [hs, show (40 : Int32) * nI S = nI (40 * S) from pk_mul 40 S, nI_add]) (by first | decide | omega) (by decide) ?_
        refine gq_iinc (pc := 113) (l' := [(4, _), (0, _), (1, _), (2, _), (3, _)]) dX12_sheet_113 rfl (ge_inc1 i) (by decide) rfl ?_
        refine gq_goto (pc := 116) 93 dX12_sheet_116 (by decide) ?_
        refine gq_sub [0, 1, 2, 3, 4] rfl ?_
        refine gq_tog ?_ (ih (i + 1) (by omega))
        rw [ge_up17]
        congr 2
        funext j
        show (if 40 * S ≤ j ∧ j < 40 * S + (i + 1) then (0 : Int32) else g 84 j) = upd (fun j => if 40 * S ≤ j ∧ j < 40 * S + i then 0 else g 84 j) (40 * S + i) 0 j
        by_cases hj : j = 40 * S + i
        · subst hj; simp [upd]
        · by_cases h2 : 40 * S ≤ j ∧ j < 40 * S + i
          · rw [if_pos ⟨h2.1, by omega⟩, pk_un hj, if_pos h2]
          · rw [if_neg (by omega), pk_un hj, if_neg h2]
  refine gq_iload_n (pc := 0) dX12_sheet_0 rfl ?_
  refine gq_rS1i (pc := 1) dX12_sheet_1 cs_X12_203 (k_isSheet _) ⟨by decide, by decide⟩ (Nat.le_of_ble_eq_true rfl) ?_
  refine gq_if_eq (pc := 4) 29 dX12_sheet_4 (by decide) (fun h_4 => ?_) (fun h_4 => ?_)
  · exact absurd h_4 (p_in_le (N := 3) hs hS (by decide))
  · refine gq_iload_n (pc := 7) dX12_sheet_7 rfl ?_
    refine gq_if_eq (pc := 8) 36 dX12_sheet_8 (by decide) (fun h_8 => ?_) (fun h_8 => ?_)
    · exact absurd h_8 (by decide)
    · refine gq_iload_n (pc := 11) dX12_sheet_11 rfl ?_
      refine gq_bipush (pc := 12) dX12_sheet_12 kb_8 ?_
      refine gq_ic_eq (pc := 14) 36 dX12_sheet_14 (by decide) (fun h_14 => ?_) (fun h_14 => ?_)
      · exact absurd h_14 (by decide)
      · refine gq_iload_n (pc := 17) dX12_sheet_17 rfl ?_
        refine gq_bipush (pc := 18) dX12_sheet_18 kb_16 ?_
        refine gq_ic_eq (pc := 20) 36 dX12_sheet_20 (by decide) (fun h_20 => ?_) (fun h_20 => ?_)
        · exact absurd h_20 (by decide)
        · refine gq_iload_n (pc := 23) dX12_sheet_23 rfl ?_
          refine gq_bipush (pc := 24) dX12_sheet_24 kb_32 ?_
          refine gq_ic_eq (pc := 26) 36 dX12_sheet_26 (by decide) (fun h_26 => ?_) (fun h_26 => ?_)
          · refine gq_iload_n (pc := 36) dX12_sheet_36 rfl ?_
            refine gq_if_eq (pc := 37) 51 dX12_sheet_37 (by decide) (fun h_37 => ?_) (fun h_37 => ?_)
            · exact absurd h_37 (by decide)
            · refine gq_iload_n (pc := 40) dX12_sheet_40 rfl ?_
              refine gq_if_ge (pc := 41) 51 dX12_sheet_41 (by decide) (fun h_41 => ?_) (fun h_41 => ?_)
              · refine gq_iload_n (pc := 51) dX12_sheet_51 rfl ?_
                refine gq_if_eq (pc := 52) 68 dX12_sheet_52 (by decide) (fun h_52 => ?_) (fun h_52 => ?_)
                · exact absurd h_52 (by decide)
                · refine gq_iload_n (pc := 55) dX12_sheet_55 rfl ?_
                  refine gq_bipush (pc := 56) dX12_sheet_56 kb_40 ?_
                  refine gq_ic_le (pc := 58) 68 dX12_sheet_58 (by decide) (fun h_58 => ?_) (fun h_58 => ?_)
                  · refine gq_aload_n (pc := 68) dX12_sheet_68 rfl ?_
                    refine gq_getr (pc := 69) dX12_sheet_69 fl_X12_25_12 sh_76 rfl ?_
                    refine gq_iload_n (pc := 72) dX12_sheet_72 rfl ?_
                    refine gq_iload_n (pc := 73) dX12_sheet_73 rfl ?_
                    refine qm_asto (pc := 74) dX12_sheet_74 sh_82 (by decide) hs (by first | decide | omega) (by decide) ?_
                    refine gq_aload_n (pc := 75) dX12_sheet_75 rfl ?_
                    refine gq_getr (pc := 76) dX12_sheet_76 fl_X12_28_12 sh_76 rfl ?_
                    refine gq_iload_n (pc := 79) dX12_sheet_79 rfl ?_
                    refine gq_iload_n (pc := 80) dX12_sheet_80 rfl ?_
                    refine gq_if_ne (pc := 81) 88 dX12_sheet_81 (by decide) (fun h_81 => ?_) (fun h_81 => ?_)
                    · refine gq_iload_n (pc := 88) dX12_sheet_88 rfl ?_
                      refine qm_asto (pc := 89) dX12_sheet_89 sh_83 (by decide) hs (by first | decide | omega) (by decide) ?_
                      refine gq_iconst (pc := 90) dX12_sheet_90 kc_0 ?_
                      refine gq_istore (pc := 91) (l' := [(4, _), (0, _), (1, _), (2, _), (3, _)]) dX12_sheet_91 (by decide) rfl ?_
                      refine gq_sub [0, 1, 2, 3, 4] rfl ?_
                      refine gq_tog ?_ (key 40 0 (by omega))
                      congr 1
                      funext q
                      by_cases hq : q = 84
                      · subst hq; rw [ge_row_self]; funext j; rw [if_neg (by omega), ge_up_row _ _ _ (by decide), ge_up_row _ _ _ (by decide)]
                      · rw [ge_row_ne _ _ hq]
                    · exact absurd h_81 (by decide)
                  · exact absurd (by rw [hm]; exact (nI_leI (b := 40) (by omega) (by decide)).mpr hm2) h_58
              · exact absurd (by rw [hm]; exact nI_pos' (by omega)) h_41
          · exact absurd h_26 (by decide)
set_option maxHeartbeats 400000 in
theorem m_put_er1 {s i v : Int32} (h : p_in s 0 3 = 0) : ge_N X ge_SH YX12_put 2 [.ref (ge_ad X.1 76), .int s, .int i, .int v] (ge_m g r f) (some (.int (-1000000001))) (ge_m (ge_up g 81 1 (g 81 1 + 1)) r f) := by
  refine gq_ofB (l := [(0, .ref (ge_ad X.1 76)), (1, .int s), (2, .int i), (3, .int v)]) (by decide) (Nat.le_of_ble_eq_true rfl) rfl ?_
  refine gq_iload_n (pc := 0) dX12_put_0 rfl ?_
  refine gq_rS1i (pc := 1) dX12_put_1 cs_X12_203 (k_isSheet _) ⟨by decide, by decide⟩ (Nat.le_of_ble_eq_true rfl) ?_
  refine gq_if_ne (pc := 4) 14 dX12_put_4 (by decide) (fun h_4 => ?_) (fun h_4 => ?_)
  · exact absurd h h_4
  · refine gq_aload_n (pc := 7) dX12_put_7 rfl ?_
    refine gq_ldc (pc := 8) dX12_put_8 kn_X12_53 ?_
    refine gq_rV1i (pc := 10) dX12_put_10 cv_X12_54 sh_76 (k_errs (j := 1) (by decide) (by decide)) ⟨by decide, by decide⟩ rfl rfl (Nat.le_of_ble_eq_true rfl) ?_
    exact gq_iret (pc := 13) rfl dX12_put_13 ⟨rfl, rfl⟩
set_option maxHeartbeats 400000 in
theorem c_put_er1 {s i v : Int32} (h : p_in s 0 3 = 0) : ge_N X ge_SH YX11_put 2 [.ref (ge_ad X.1 0), .int s, .int i, .int v] (ge_k g 25 r x hb) (some (.int (-1000000000 - 1))) (ge_k (ge_up g 75 1 (g 75 1 + 1)) 25 r x hb) := by
  refine gq_ofB (l := [(0, .ref (ge_ad X.1 0)), (1, .int s), (2, .int i), (3, .int v)]) (by decide) (Nat.le_of_ble_eq_true rfl) rfl ?_
  refine gq_iload_n (pc := 0) dX11_put_0 rfl ?_
  refine gq_rS1i (pc := 1) dX11_put_1 cs_X11_232 (c_noSheet _) ⟨by decide, by decide⟩ (Nat.le_of_ble_eq_true rfl) ?_
  refine gq_if_eq (pc := 4) 13 dX11_put_4 (by decide) (fun h_4 => ?_) (fun h_4 => ?_)
  · exact absurd h (p_nt_0.mp h_4)
  · refine gq_aload_n (pc := 7) dX11_put_7 rfl ?_
    refine gq_iconst (pc := 8) dX11_put_8 kc_1 ?_
    refine gq_rV1i (pc := 9) dX11_put_9 cv_X11_109 sh_0 (c_error kl_1 (by decide)) ⟨by decide, by decide⟩ rfl rfl (Nat.le_of_ble_eq_true rfl) ?_
    exact gq_iret (pc := 12) rfl dX11_put_12 ⟨rfl, rfl⟩
set_option maxHeartbeats 400000 in
theorem m_put_no {s : Int32} {S : Nat} (hs : s = nI S) (hS : S ≤ 3) {i v : Int32} (h : g 82 S = 0) : ge_N X ge_SH YX12_put 2 [.ref (ge_ad X.1 76), .int s, .int i, .int v] (ge_m g r f) (some (.int (-1000000002))) (ge_m (ge_up g 81 2 (g 81 2 + 1)) r f) := by
  refine gq_ofB (l := [(0, .ref (ge_ad X.1 76)), (1, .int s), (2, .int i), (3, .int v)]) (by decide) (Nat.le_of_ble_eq_true rfl) rfl ?_
  refine gq_iload_n (pc := 0) dX12_put_0 rfl ?_
  refine gq_rS1i (pc := 1) dX12_put_1 cs_X12_203 (k_isSheet _) ⟨by decide, by decide⟩ (Nat.le_of_ble_eq_true rfl) ?_
  refine gq_if_ne (pc := 4) 14 dX12_put_4 (by decide) (fun h_4 => ?_) (fun h_4 => ?_)
  · refine gq_aload_n (pc := 14) dX12_put_14 rfl ?_
    refine gq_getr (pc := 15) dX12_put_15 fl_X12_25_12 sh_76 rfl ?_
    refine gq_iload_n (pc := 18) dX12_put_18 rfl ?_
    refine qm_aldo (pc := 19) dX12_put_19 sh_82 (by decide) hs (by first | decide | omega) (by decide) ?_
    refine gq_if_ne (pc := 20) 30 dX12_put_20 (by decide) (fun h_20 => ?_) (fun h_20 => ?_)
    · exact absurd h h_20
    · refine gq_aload_n (pc := 23) dX12_put_23 rfl ?_
      refine gq_ldc (pc := 24) dX12_put_24 kn_X12_202 ?_
      refine gq_rV1i (pc := 26) dX12_put_26 cv_X12_54 sh_76 (k_errs (j := 2) (by decide) (by decide)) ⟨by decide, by decide⟩ rfl rfl (Nat.le_of_ble_eq_true rfl) ?_
      exact gq_iret (pc := 29) rfl dX12_put_29 ⟨rfl, rfl⟩
  · exact absurd h_4 (p_in_le (N := 3) hs hS (by decide))
set_option maxHeartbeats 400000 in
theorem m_put_er2 {s : Int32} {S : Nat} (hs : s = nI S) (hS : S ≤ 3) {i v : Int32} (h : ¬ g 82 S = 0) (h2 : p_in i 0 (g 83 S - 1) = 0) : ge_N X ge_SH YX12_put 2 [.ref (ge_ad X.1 76), .int s, .int i, .int v] (ge_m g r f) (some (.int (-1000000001))) (ge_m (ge_up g 81 1 (g 81 1 + 1)) r f) := by
  refine gq_ofB (l := [(0, .ref (ge_ad X.1 76)), (1, .int s), (2, .int i), (3, .int v)]) (by decide) (Nat.le_of_ble_eq_true rfl) rfl ?_
  refine gq_iload_n (pc := 0) dX12_put_0 rfl ?_
  refine gq_rS1i (pc := 1) dX12_put_1 cs_X12_203 (k_isSheet _) ⟨by decide, by decide⟩ (Nat.le_of_ble_eq_true rfl) ?_
  refine gq_if_ne (pc := 4) 14 dX12_put_4 (by decide) (fun h_4 => ?_) (fun h_4 => ?_)
  · refine gq_aload_n (pc := 14) dX12_put_14 rfl ?_
    refine gq_getr (pc := 15) dX12_put_15 fl_X12_25_12 sh_76 rfl ?_
    refine gq_iload_n (pc := 18) dX12_put_18 rfl ?_
    refine qm_aldo (pc := 19) dX12_put_19 sh_82 (by decide) hs (by first | decide | omega) (by decide) ?_
    refine gq_if_ne (pc := 20) 30 dX12_put_20 (by decide) (fun h_20 => ?_) (fun h_20 => ?_)
    · refine gq_iload_n (pc := 30) dX12_put_30 rfl ?_
      refine gq_iconst (pc := 31) dX12_put_31 kc_0 ?_
      refine gq_aload_n (pc := 32) dX12_put_32 rfl ?_
      refine gq_getr (pc := 33) dX12_put_33 fl_X12_28_12 sh_76 rfl ?_
      refine gq_iload_n (pc := 36) dX12_put_36 rfl ?_
      refine qm_aldo (pc := 37) dX12_put_37 sh_83 (by decide) hs (by first | decide | omega) (by decide) ?_
      refine gq_iconst (pc := 38) dX12_put_38 kc_1 ?_
      refine gq_isub (pc := 39) dX12_put_39 ?_
      refine gq_rS3i (pc := 40) dX12_put_40 cs_X12_41 (k_in _ _ _) ⟨by decide, by decide⟩ (Nat.le_of_ble_eq_true rfl) ?_
      refine gq_if_ne (pc := 43) 53 dX12_put_43 (by decide) (fun h_43 => ?_) (fun h_43 => ?_)
      · exact absurd h2 h_43
      · refine gq_aload_n (pc := 46) dX12_put_46 rfl ?_
        refine gq_ldc (pc := 47) dX12_put_47 kn_X12_53 ?_
        refine gq_rV1i (pc := 49) dX12_put_49 cv_X12_54 sh_76 (k_errs (j := 1) (by decide) (by decide)) ⟨by decide, by decide⟩ rfl rfl (Nat.le_of_ble_eq_true rfl) ?_
        exact gq_iret (pc := 52) rfl dX12_put_52 ⟨rfl, rfl⟩
    · exact absurd h_20 h
  · exact absurd h_4 (p_in_le (N := 3) hs hS (by decide))
set_option maxHeartbeats 400000 in
theorem m_put_ok {s : Int32} {S : Nat} (hs : s = nI S) (hS : S ≤ 3) {i v : Int32} {a n : Nat} (h : ¬ g 82 S = 0) (hn : g 83 S = nI n) (hi : i = nI a) (ha : a < n) (hn2 : n ≤ 40) : ge_N X ge_SH YX12_put 2 [.ref (ge_ad X.1 76), .int s, .int i, .int v] (ge_m g r f) (some (.int 1)) (ge_m (ge_up g 84 (40 * S + a) (p_nar (g 82 S) v)) r f) := by
  refine gq_ofB (l := [(0, .ref (ge_ad X.1 76)), (1, .int s), (2, .int i), (3, .int v)]) (by decide) (Nat.le_of_ble_eq_true rfl) rfl ?_
  refine gq_iload_n (pc := 0) dX12_put_0 rfl ?_
  refine gq_rS1i (pc := 1) dX12_put_1 cs_X12_203 (k_isSheet _) ⟨by decide, by decide⟩ (Nat.le_of_ble_eq_true rfl) ?_
  refine gq_if_ne (pc := 4) 14 dX12_put_4 (by decide) (fun h_4 => ?_) (fun h_4 => ?_)
  · refine gq_aload_n (pc := 14) dX12_put_14 rfl ?_
    refine gq_getr (pc := 15) dX12_put_15 fl_X12_25_12 sh_76 rfl ?_
    refine gq_iload_n (pc := 18) dX12_put_18 rfl ?_
    refine qm_aldo (pc := 19) dX12_put_19 sh_82 (by decide) hs (by first | decide | omega) (by decide) ?_
    refine gq_if_ne (pc := 20) 30 dX12_put_20 (by decide) (fun h_20 => ?_) (fun h_20 => ?_)
    · refine gq_iload_n (pc := 30) dX12_put_30 rfl ?_
      refine gq_iconst (pc := 31) dX12_put_31 kc_0 ?_
      refine gq_aload_n (pc := 32) dX12_put_32 rfl ?_
      refine gq_getr (pc := 33) dX12_put_33 fl_X12_28_12 sh_76 rfl ?_
      refine gq_iload_n (pc := 36) dX12_put_36 rfl ?_
      refine qm_aldo (pc := 37) dX12_put_37 sh_83 (by decide) hs (by first | decide | omega) (by decide) ?_
      refine gq_iconst (pc := 38) dX12_put_38 kc_1 ?_
      refine gq_isub (pc := 39) dX12_put_39 ?_
      refine gq_rS3i (pc := 40) dX12_put_40 cs_X12_41 (k_in _ _ _) ⟨by decide, by decide⟩ (Nat.le_of_ble_eq_true rfl) ?_
      refine gq_if_ne (pc := 43) 53 dX12_put_43 (by decide) (fun h_43 => ?_) (fun h_43 => ?_)
      · refine gq_aload_n (pc := 53) dX12_put_53 rfl ?_
        refine gq_getr (pc := 54) dX12_put_54 fl_X12_31_12 sh_76 rfl ?_
        refine gq_bipush (pc := 57) dX12_put_57 kb_40 ?_
        refine gq_iload_n (pc := 59) dX12_put_59 rfl ?_
        refine gq_imul (pc := 60) dX12_put_60 ?_
        refine gq_iload_n (pc := 61) dX12_put_61 rfl ?_
        refine gq_iadd (pc := 62) dX12_put_62 ?_
        refine gq_aload_n (pc := 63) dX12_put_63 rfl ?_
        refine gq_getr (pc := 64) dX12_put_64 fl_X12_25_12 sh_76 rfl ?_
        refine gq_iload_n (pc := 67) dX12_put_67 rfl ?_
        refine qm_aldo (pc := 68) dX12_put_68 sh_82 (by decide) hs (by first | decide | omega) (by decide) ?_
        refine gq_iload_n (pc := 69) dX12_put_69 rfl ?_
        refine gq_rS2i (pc := 70) dX12_put_70 cs_X12_252 (k_narrow _ _) ⟨by decide, by decide⟩ (Nat.le_of_ble_eq_true rfl) ?_
        refine qm_asto (pc := 73) dX12_put_73 sh_84 (by decide) (by rw [hs, hi, show (40 : Int32) * nI S = nI (40 * S) from pk_mul 40 S, nI_add]) (by first | decide | omega) (by decide) ?_
        refine gq_iconst (pc := 74) dX12_put_74 kc_1 ?_
        exact gq_iret (pc := 75) rfl dX12_put_75 ⟨rfl, rfl⟩
      · exact absurd h_43 (p_in_E hi ha (by omega) hn)
    · exact absurd h_20 h
  · exact absurd h_4 (p_in_le (N := 3) hs hS (by decide))
set_option maxHeartbeats 400000 in
theorem c_put_no_0 {i v : Int32} (h : g 67 2 = 0) : ge_N X ge_SH YX11_put 2 [.ref (ge_ad X.1 0), .int 0, .int i, .int v] (ge_k g 25 r x hb) (some (.int (-1000000000 - 2))) (ge_k (ge_up g 75 2 (g 75 2 + 1)) 25 r x hb) := by
  refine gq_ofB (l := [(0, .ref (ge_ad X.1 0)), (1, .int 0), (2, .int i), (3, .int v)]) (by decide) (Nat.le_of_ble_eq_true rfl) rfl ?_
  refine gq_iload_n (pc := 0) dX11_put_0 rfl ?_
  refine gq_rS1i (pc := 1) dX11_put_1 cs_X11_232 (c_noSheet _) ⟨by decide, by decide⟩ (Nat.le_of_ble_eq_true rfl) ?_
  refine gq_if_eq (pc := 4) 13 dX11_put_4 (by decide) (fun h_4 => ?_) (fun h_4 => ?_)
  · refine gq_aload_n (pc := 13) dX11_put_13 rfl ?_
    refine gq_getr (pc := 14) dX11_put_14 fl_X11_89_11 sh_0 rfl ?_
    refine gq_iload_n (pc := 17) dX11_put_17 rfl ?_
    refine gq_aald (pc := 18) dX11_put_18 sh_66 rfl kl_0 rfl (by decide) ?_
    refine gq_astore (pc := 19) (l' := [(4, _), (0, _), (1, _), (2, _), (3, _)]) dX11_put_19 (by decide) rfl ?_
    refine gq_aload (pc := 21) dX11_put_21 rfl ?_
    refine kq_geto (pw := 25) (pc := 23) (by decide) dX11_put_23 fl_X11_235_7 sh_67 rfl (by unfold ge_Z; omega) ?_
    refine gq_if_ne (pc := 26) 35 dX11_put_26 (by decide) (fun h_26 => ?_) (fun h_26 => ?_)
    · exact absurd h h_26
    · refine gq_aload_n (pc := 29) dX11_put_29 rfl ?_
      refine gq_iconst (pc := 30) dX11_put_30 kc_2 ?_
      refine gq_rV1i (pc := 31) dX11_put_31 cv_X11_109 sh_0 (c_error kl_2 (by decide)) ⟨by decide, by decide⟩ rfl rfl (Nat.le_of_ble_eq_true rfl) ?_
      exact gq_iret (pc := 34) rfl dX11_put_34 ⟨rfl, rfl⟩
  · exact absurd (show p_nt (p_in 0 0 3) = 0 by decide) h_4
set_option maxHeartbeats 400000 in
theorem c_put_er2_0 {i v : Int32} (h : ¬ g 67 2 = 0) (h2 : p_hold (g 67 1) i 1 = 0) : ge_N X ge_SH YX11_put 2 [.ref (ge_ad X.1 0), .int 0, .int i, .int v] (ge_k g 25 r x hb) (some (.int (-1000000000 - 1))) (ge_k (ge_up g 75 1 (g 75 1 + 1)) 25 r x hb) := by
  refine gq_ofB (l := [(0, .ref (ge_ad X.1 0)), (1, .int 0), (2, .int i), (3, .int v)]) (by decide) (Nat.le_of_ble_eq_true rfl) rfl ?_
  refine gq_iload_n (pc := 0) dX11_put_0 rfl ?_
  refine gq_rS1i (pc := 1) dX11_put_1 cs_X11_232 (c_noSheet _) ⟨by decide, by decide⟩ (Nat.le_of_ble_eq_true rfl) ?_
  refine gq_if_eq (pc := 4) 13 dX11_put_4 (by decide) (fun h_4 => ?_) (fun h_4 => ?_)
  · refine gq_aload_n (pc := 13) dX11_put_13 rfl ?_
    refine gq_getr (pc := 14) dX11_put_14 fl_X11_89_11 sh_0 rfl ?_
    refine gq_iload_n (pc := 17) dX11_put_17 rfl ?_
    refine gq_aald (pc := 18) dX11_put_18 sh_66 rfl kl_0 rfl (by decide) ?_
    refine gq_astore (pc := 19) (l' := [(4, _), (0, _), (1, _), (2, _), (3, _)]) dX11_put_19 (by decide) rfl ?_
    refine gq_aload (pc := 21) dX11_put_21 rfl ?_
    refine kq_geto (pw := 25) (pc := 23) (by decide) dX11_put_23 fl_X11_235_7 sh_67 rfl (by unfold ge_Z; omega) ?_
    refine gq_if_ne (pc := 26) 35 dX11_put_26 (by decide) (fun h_26 => ?_) (fun h_26 => ?_)
    · refine gq_aload (pc := 35) dX11_put_35 rfl ?_
      refine gq_iload_n (pc := 37) dX11_put_37 rfl ?_
      refine gq_iconst (pc := 38) dX11_put_38 kc_1 ?_
      refine gq_rV2i (pc := 39) dX11_put_39 cv_X11_293 sh_67 (r_holds_67 _ _) ⟨by decide, by decide⟩ rfl rfl (Nat.le_of_ble_eq_true rfl) ?_
      refine gq_if_ne (pc := 42) 51 dX11_put_42 (by decide) (fun h_42 => ?_) (fun h_42 => ?_)
      · exact absurd h2 h_42
      · refine gq_aload_n (pc := 45) dX11_put_45 rfl ?_
        refine gq_iconst (pc := 46) dX11_put_46 kc_1 ?_
        refine gq_rV1i (pc := 47) dX11_put_47 cv_X11_109 sh_0 (c_error kl_1 (by decide)) ⟨by decide, by decide⟩ rfl rfl (Nat.le_of_ble_eq_true rfl) ?_
        exact gq_iret (pc := 50) rfl dX11_put_50 ⟨rfl, rfl⟩
    · exact absurd h_26 h
  · exact absurd (show p_nt (p_in 0 0 3) = 0 by decide) h_4
set_option maxHeartbeats 400000 in
theorem c_put_ok_0 {i v : Int32} {a n : Nat} (h : ¬ g 67 2 = 0) (h2 : ¬ p_hold (g 67 1) i 1 = 0) (hi : i = nI a) (ha : a < 40) : ge_N X ge_SH YX11_put 2 [.ref (ge_ad X.1 0), .int 0, .int i, .int v] (ge_k g 25 r x hb) (some (.int 1)) (ge_k (ge_up g 68 a (p_low (g 67 2) v)) 25 r x hb) := by
  refine gq_ofB (l := [(0, .ref (ge_ad X.1 0)), (1, .int 0), (2, .int i), (3, .int v)]) (by decide) (Nat.le_of_ble_eq_true rfl) rfl ?_
  refine gq_iload_n (pc := 0) dX11_put_0 rfl ?_
  refine gq_rS1i (pc := 1) dX11_put_1 cs_X11_232 (c_noSheet _) ⟨by decide, by decide⟩ (Nat.le_of_ble_eq_true rfl) ?_
  refine gq_if_eq (pc := 4) 13 dX11_put_4 (by decide) (fun h_4 => ?_) (fun h_4 => ?_)
  · refine gq_aload_n (pc := 13) dX11_put_13 rfl ?_
    refine gq_getr (pc := 14) dX11_put_14 fl_X11_89_11 sh_0 rfl ?_
    refine gq_iload_n (pc := 17) dX11_put_17 rfl ?_
    refine gq_aald (pc := 18) dX11_put_18 sh_66 rfl kl_0 rfl (by decide) ?_
    refine gq_astore (pc := 19) (l' := [(4, _), (0, _), (1, _), (2, _), (3, _)]) dX11_put_19 (by decide) rfl ?_
    refine gq_aload (pc := 21) dX11_put_21 rfl ?_
    refine kq_geto (pw := 25) (pc := 23) (by decide) dX11_put_23 fl_X11_235_7 sh_67 rfl (by unfold ge_Z; omega) ?_
    refine gq_if_ne (pc := 26) 35 dX11_put_26 (by decide) (fun h_26 => ?_) (fun h_26 => ?_)
    · refine gq_aload (pc := 35) dX11_put_35 rfl ?_
      refine gq_iload_n (pc := 37) dX11_put_37 rfl ?_
      refine gq_iconst (pc := 38) dX11_put_38 kc_1 ?_
      refine gq_rV2i (pc := 39) dX11_put_39 cv_X11_293 sh_67 (r_holds_67 _ _) ⟨by decide, by decide⟩ rfl rfl (Nat.le_of_ble_eq_true rfl) ?_
      refine gq_if_ne (pc := 42) 51 dX11_put_42 (by decide) (fun h_42 => ?_) (fun h_42 => ?_)
      · refine gq_aload (pc := 51) dX11_put_51 rfl ?_
        refine gq_getr (pc := 53) dX11_put_53 fl_X11_297_7 sh_67 rfl ?_
        refine gq_iload_n (pc := 56) dX11_put_56 rfl ?_
        refine gq_aload (pc := 57) dX11_put_57 rfl ?_
        refine gq_iload_n (pc := 59) dX11_put_59 rfl ?_
        refine gq_rV1i (pc := 60) dX11_put_60 cv_X11_303 sh_67 (r_low_67 _) ⟨by decide, by decide⟩ rfl rfl (Nat.le_of_ble_eq_true rfl) ?_
        refine kq_asto (pw := 25) (pc := 63) (by decide) dX11_put_63 sh_68 hi (by first | decide | omega) (by decide) ?_
        refine gq_iconst (pc := 64) dX11_put_64 kc_1 ?_
        exact gq_iret (pc := 65) rfl dX11_put_65 ⟨rfl, rfl⟩
      · exact absurd h_42 h2
    · exact absurd h_26 h
  · exact absurd (show p_nt (p_in 0 0 3) = 0 by decide) h_4
set_option maxHeartbeats 400000 in
theorem c_put_no_1 {i v : Int32} (h : g 69 2 = 0) : ge_N X ge_SH YX11_put 2 [.ref (ge_ad X.1 0), .int 1, .int i, .int v] (ge_k g 25 r x hb) (some (.int (-1000000000 - 2))) (ge_k (ge_up g 75 2 (g 75 2 + 1)) 25 r x hb) := by
  refine gq_ofB (l := [(0, .ref (ge_ad X.1 0)), (1, .int 1), (2, .int i), (3, .int v)]) (by decide) (Nat.le_of_ble_eq_true rfl) rfl ?_
  refine gq_iload_n (pc := 0) dX11_put_0 rfl ?_
  refine gq_rS1i (pc := 1) dX11_put_1 cs_X11_232 (c_noSheet _) ⟨by decide, by decide⟩ (Nat.le_of_ble_eq_true rfl) ?_
  refine gq_if_eq (pc := 4) 13 dX11_put_4 (by decide) (fun h_4 => ?_) (fun h_4 => ?_)
  · refine gq_aload_n (pc := 13) dX11_put_13 rfl ?_
    refine gq_getr (pc := 14) dX11_put_14 fl_X11_89_11 sh_0 rfl ?_
    refine gq_iload_n (pc := 17) dX11_put_17 rfl ?_
    refine gq_aald (pc := 18) dX11_put_18 sh_66 rfl kl_1 rfl (by decide) ?_
    refine gq_astore (pc := 19) (l' := [(4, _), (0, _), (1, _), (2, _), (3, _)]) dX11_put_19 (by decide) rfl ?_
    refine gq_aload (pc := 21) dX11_put_21 rfl ?_
    refine kq_geto (pw := 25) (pc := 23) (by decide) dX11_put_23 fl_X11_235_7 sh_69 rfl (by unfold ge_Z; omega) ?_
    refine gq_if_ne (pc := 26) 35 dX11_put_26 (by decide) (fun h_26 => ?_) (fun h_26 => ?_)
    · exact absurd h h_26
    · refine gq_aload_n (pc := 29) dX11_put_29 rfl ?_
      refine gq_iconst (pc := 30) dX11_put_30 kc_2 ?_
      refine gq_rV1i (pc := 31) dX11_put_31 cv_X11_109 sh_0 (c_error kl_2 (by decide)) ⟨by decide, by decide⟩ rfl rfl (Nat.le_of_ble_eq_true rfl) ?_
      exact gq_iret (pc := 34) rfl dX11_put_34 ⟨rfl, rfl⟩
  · exact absurd (show p_nt (p_in 1 0 3) = 0 by decide) h_4
set_option maxHeartbeats 400000 in
theorem c_put_er2_1 {i v : Int32} (h : ¬ g 69 2 = 0) (h2 : p_hold (g 69 1) i 1 = 0) : ge_N X ge_SH YX11_put 2 [.ref (ge_ad X.1 0), .int 1, .int i, .int v] (ge_k g 25 r x hb) (some (.int (-1000000000 - 1))) (ge_k (ge_up g 75 1 (g 75 1 + 1)) 25 r x hb) := by
  refine gq_ofB (l := [(0, .ref (ge_ad X.1 0)), (1, .int 1), (2, .int i), (3, .int v)]) (by decide) (Nat.le_of_ble_eq_true rfl) rfl ?_
  refine gq_iload_n (pc := 0) dX11_put_0 rfl ?_
  refine gq_rS1i (pc := 1) dX11_put_1 cs_X11_232 (c_noSheet _) ⟨by decide, by decide⟩ (Nat.le_of_ble_eq_true rfl) ?_
  refine gq_if_eq (pc := 4) 13 dX11_put_4 (by decide) (fun h_4 => ?_) (fun h_4 => ?_)
  · refine gq_aload_n (pc := 13) dX11_put_13 rfl ?_
    refine gq_getr (pc := 14) dX11_put_14 fl_X11_89_11 sh_0 rfl ?_
    refine gq_iload_n (pc := 17) dX11_put_17 rfl ?_
    refine gq_aald (pc := 18) dX11_put_18 sh_66 rfl kl_1 rfl (by decide) ?_
    refine gq_astore (pc := 19) (l' := [(4, _), (0, _), (1, _), (2, _), (3, _)]) dX11_put_19 (by decide) rfl ?_
    refine gq_aload (pc := 21) dX11_put_21 rfl ?_
    refine kq_geto (pw := 25) (pc := 23) (by decide) dX11_put_23 fl_X11_235_7 sh_69 rfl (by unfold ge_Z; omega) ?_
    refine gq_if_ne (pc := 26) 35 dX11_put_26 (by decide) (fun h_26 => ?_) (fun h_26 => ?_)
    · refine gq_aload (pc := 35) dX11_put_35 rfl ?_
      refine gq_iload_n (pc := 37) dX11_put_37 rfl ?_
      refine gq_iconst (pc := 38) dX11_put_38 kc_1 ?_
      refine gq_rV2i (pc := 39) dX11_put_39 cv_X11_293 sh_69 (r_holds_69 _ _) ⟨by decide, by decide⟩ rfl rfl (Nat.le_of_ble_eq_true rfl) ?_
      refine gq_if_ne (pc := 42) 51 dX11_put_42 (by decide) (fun h_42 => ?_) (fun h_42 => ?_)
      · exact absurd h2 h_42
      · refine gq_aload_n (pc := 45) dX11_put_45 rfl ?_
        refine gq_iconst (pc := 46) dX11_put_46 kc_1 ?_
        refine gq_rV1i (pc := 47) dX11_put_47 cv_X11_109 sh_0 (c_error kl_1 (by decide)) ⟨by decide, by decide⟩ rfl rfl (Nat.le_of_ble_eq_true rfl) ?_
        exact gq_iret (pc := 50) rfl dX11_put_50 ⟨rfl, rfl⟩
    · exact absurd h_26 h
  · exact absurd (show p_nt (p_in 1 0 3) = 0 by decide) h_4
set_option maxHeartbeats 400000 in
theorem c_put_ok_1 {i v : Int32} {a n : Nat} (h : ¬ g 69 2 = 0) (h2 : ¬ p_hold (g 69 1) i 1 = 0) (hi : i = nI a) (ha : a < 40) : ge_N X ge_SH YX11_put 2 [.ref (ge_ad X.1 0), .int 1, .int i, .int v] (ge_k g 25 r x hb) (some (.int 1)) (ge_k (ge_up g 70 a (p_low (g 69 2) v)) 25 r x hb) := by
  refine gq_ofB (l := [(0, .ref (ge_ad X.1 0)), (1, .int 1), (2, .int i), (3, .int v)]) (by decide) (Nat.le_of_ble_eq_true rfl) rfl ?_
  refine gq_iload_n (pc := 0) dX11_put_0 rfl ?_
  refine gq_rS1i (pc := 1) dX11_put_1 cs_X11_232 (c_noSheet _) ⟨by decide, by decide⟩ (Nat.le_of_ble_eq_true rfl) ?_
  refine gq_if_eq (pc := 4) 13 dX11_put_4 (by decide) (fun h_4 => ?_) (fun h_4 => ?_)
  · refine gq_aload_n (pc := 13) dX11_put_13 rfl ?_
    refine gq_getr (pc := 14) dX11_put_14 fl_X11_89_11 sh_0 rfl ?_
    refine gq_iload_n (pc := 17) dX11_put_17 rfl ?_
    refine gq_aald (pc := 18) dX11_put_18 sh_66 rfl kl_1 rfl (by decide) ?_
    refine gq_astore (pc := 19) (l' := [(4, _), (0, _), (1, _), (2, _), (3, _)]) dX11_put_19 (by decide) rfl ?_
    refine gq_aload (pc := 21) dX11_put_21 rfl ?_
    refine kq_geto (pw := 25) (pc := 23) (by decide) dX11_put_23 fl_X11_235_7 sh_69 rfl (by unfold ge_Z; omega) ?_
    refine gq_if_ne (pc := 26) 35 dX11_put_26 (by decide) (fun h_26 => ?_) (fun h_26 => ?_)
    · refine gq_aload (pc := 35) dX11_put_35 rfl ?_
      refine gq_iload_n (pc := 37) dX11_put_37 rfl ?_
      refine gq_iconst (pc := 38) dX11_put_38 kc_1 ?_
      refine gq_rV2i (pc := 39) dX11_put_39 cv_X11_293 sh_69 (r_holds_69 _ _) ⟨by decide, by decide⟩ rfl rfl (Nat.le_of_ble_eq_true rfl) ?_
      refine gq_if_ne (pc := 42) 51 dX11_put_42 (by decide) (fun h_42 => ?_) (fun h_42 => ?_)
      · refine gq_aload (pc := 51) dX11_put_51 rfl ?_
        refine gq_getr (pc := 53) dX11_put_53 fl_X11_297_7 sh_69 rfl ?_
        refine gq_iload_n (pc := 56) dX11_put_56 rfl ?_
        refine gq_aload (pc := 57) dX11_put_57 rfl ?_
        refine gq_iload_n (pc := 59) dX11_put_59 rfl ?_
        refine gq_rV1i (pc := 60) dX11_put_60 cv_X11_303 sh_69 (r_low_69 _) ⟨by decide, by decide⟩ rfl rfl (Nat.le_of_ble_eq_true rfl) ?_
        refine kq_asto (pw := 25) (pc := 63) (by decide) dX11_put_63 sh_70 hi (by first | decide | omega) (by decide) ?_
        refine gq_iconst (pc := 64) dX11_put_64 kc_1 ?_
        exact gq_iret (pc := 65) rfl dX11_put_65 ⟨rfl, rfl⟩
      · exact absurd h_42 h2
    · exact absurd h_26 h
  · exact absurd (show p_nt (p_in 1 0 3) = 0 by decide) h_4
set_option maxHeartbeats 400000 in
theorem c_put_no_2 {i v : Int32} (h : g 71 2 = 0) : ge_N X ge_SH YX11_put 2 [.ref (ge_ad X.1 0), .int 2, .int i, .int v] (ge_k g 25 r x hb) (some (.int (-1000000000 - 2))) (ge_k (ge_up g 75 2 (g 75 2 + 1)) 25 r x hb) := by
  refine gq_ofB (l := [(0, .ref (ge_ad X.1 0)), (1, .int 2), (2, .int i), (3, .int v)]) (by decide) (Nat.le_of_ble_eq_true rfl) rfl ?_
  refine gq_iload_n (pc := 0) dX11_put_0 rfl ?_
  refine gq_rS1i (pc := 1) dX11_put_1 cs_X11_232 (c_noSheet _) ⟨by decide, by decide⟩ (Nat.le_of_ble_eq_true rfl) ?_
  refine gq_if_eq (pc := 4) 13 dX11_put_4 (by decide) (fun h_4 => ?_) (fun h_4 => ?_)
  · refine gq_aload_n (pc := 13) dX11_put_13 rfl ?_
    refine gq_getr (pc := 14) dX11_put_14 fl_X11_89_11 sh_0 rfl ?_
    refine gq_iload_n (pc := 17) dX11_put_17 rfl ?_
    refine gq_aald (pc := 18) dX11_put_18 sh_66 rfl kl_2 rfl (by decide) ?_
    refine gq_astore (pc := 19) (l' := [(4, _), (0, _), (1, _), (2, _), (3, _)]) dX11_put_19 (by decide) rfl ?_
    refine gq_aload (pc := 21) dX11_put_21 rfl ?_
    refine kq_geto (pw := 25) (pc := 23) (by decide) dX11_put_23 fl_X11_235_7 sh_71 rfl (by unfold ge_Z; omega) ?_
    refine gq_if_ne (pc := 26) 35 dX11_put_26 (by decide) (fun h_26 => ?_) (fun h_26 => ?_)
    · exact absurd h h_26
    · refine gq_aload_n (pc := 29) dX11_put_29 rfl ?_
      refine gq_iconst (pc := 30) dX11_put_30 kc_2 ?_
      refine gq_rV1i (pc := 31) dX11_put_31 cv_X11_109 sh_0 (c_error kl_2 (by decide)) ⟨by decide, by decide⟩ rfl rfl (Nat.le_of_ble_eq_true rfl) ?_
      exact gq_iret (pc := 34) rfl dX11_put_34 ⟨rfl, rfl⟩
  · exact absurd (show p_nt (p_in 2 0 3) = 0 by decide) h_4
set_option maxHeartbeats 400000 in
theorem c_put_er2_2 {i v : Int32} (h : ¬ g 71 2 = 0) (h2 : p_hold (g 71 1) i 1 = 0) : ge_N X ge_SH YX11_put 2 [.ref (ge_ad X.1 0), .int 2, .int i, .int v] (ge_k g 25 r x hb) (some (.int (-1000000000 - 1))) (ge_k (ge_up g 75 1 (g 75 1 + 1)) 25 r x hb) := by
  refine gq_ofB (l := [(0, .ref (ge_ad X.1 0)), (1, .int 2), (2, .int i), (3, .int v)]) (by decide) (Nat.le_of_ble_eq_true rfl) rfl ?_
  refine gq_iload_n (pc := 0) dX11_put_0 rfl ?_
  refine gq_rS1i (pc := 1) dX11_put_1 cs_X11_232 (c_noSheet _) ⟨by decide, by decide⟩ (Nat.le_of_ble_eq_true rfl) ?_
  refine gq_if_eq (pc := 4) 13 dX11_put_4 (by decide) (fun h_4 => ?_) (fun h_4 => ?_)
  · refine gq_aload_n (pc := 13) dX11_put_13 rfl ?_
    refine gq_getr (pc := 14) dX11_put_14 fl_X11_89_11 sh_0 rfl ?_
    refine gq_iload_n (pc := 17) dX11_put_17 rfl ?_
    refine gq_aald (pc := 18) dX11_put_18 sh_66 rfl kl_2 rfl (by decide) ?_
    refine gq_astore (pc := 19) (l' := [(4, _), (0, _), (1, _), (2, _), (3, _)]) dX11_put_19 (by decide) rfl ?_
    refine gq_aload (pc := 21) dX11_put_21 rfl ?_
    refine kq_geto (pw := 25) (pc := 23) (by decide) dX11_put_23 fl_X11_235_7 sh_71 rfl (by unfold ge_Z; omega) ?_
    refine gq_if_ne (pc := 26) 35 dX11_put_26 (by decide) (fun h_26 => ?_) (fun h_26 => ?_)
    · refine gq_aload (pc := 35) dX11_put_35 rfl ?_
      refine gq_iload_n (pc := 37) dX11_put_37 rfl ?_
      refine gq_iconst (pc := 38) dX11_put_38 kc_1 ?_
      refine gq_rV2i (pc := 39) dX11_put_39 cv_X11_293 sh_71 (r_holds_71 _ _) ⟨by decide, by decide⟩ rfl rfl (Nat.le_of_ble_eq_true rfl) ?_
      refine gq_if_ne (pc := 42) 51 dX11_put_42 (by decide) (fun h_42 => ?_) (fun h_42 => ?_)
      · exact absurd h2 h_42
      · refine gq_aload_n (pc := 45) dX11_put_45 rfl ?_
        refine gq_iconst (pc := 46) dX11_put_46 kc_1 ?_
        refine gq_rV1i (pc := 47) dX11_put_47 cv_X11_109 sh_0 (c_error kl_1 (by decide)) ⟨by decide, by decide⟩ rfl rfl (Nat.le_of_ble_eq_true rfl) ?_
        exact gq_iret (pc := 50) rfl dX11_put_50 ⟨rfl, rfl⟩
    · exact absurd h_26 h
  · exact absurd (show p_nt (p_in 2 0 3) = 0 by decide) h_4
set_option maxHeartbeats 400000 in
theorem c_put_ok_2 {i v : Int32} {a n : Nat} (h : ¬ g 71 2 = 0) (h2 : ¬ p_hold (g 71 1) i 1 = 0) (hi : i = nI a) (ha : a < 40) : ge_N X ge_SH YX11_put 2 [.ref (ge_ad X.1 0), .int 2, .int i, .int v] (ge_k g 25 r x hb) (some (.int 1)) (ge_k (ge_up g 72 a (p_low (g 71 2) v)) 25 r x hb) := by
  refine gq_ofB (l := [(0, .ref (ge_ad X.1 0)), (1, .int 2), (2, .int i), (3, .int v)]) (by decide) (Nat.le_of_ble_eq_true rfl) rfl ?_
  refine gq_iload_n (pc := 0) dX11_put_0 rfl ?_
  refine gq_rS1i (pc := 1) dX11_put_1 cs_X11_232 (c_noSheet _) ⟨by decide, by decide⟩ (Nat.le_of_ble_eq_true rfl) ?_
  refine gq_if_eq (pc := 4) 13 dX11_put_4 (by decide) (fun h_4 => ?_) (fun h_4 => ?_)
  · refine gq_aload_n (pc := 13) dX11_put_13 rfl ?_
    refine gq_getr (pc := 14) dX11_put_14 fl_X11_89_11 sh_0 rfl ?_
    refine gq_iload_n (pc := 17) dX11_put_17 rfl ?_
    refine gq_aald (pc := 18) dX11_put_18 sh_66 rfl kl_2 rfl (by decide) ?_
    refine gq_astore (pc := 19) (l' := [(4, _), (0, _), (1, _), (2, _), (3, _)]) dX11_put_19 (by decide) rfl ?_
    refine gq_aload (pc := 21) dX11_put_21 rfl ?_
    refine kq_geto (pw := 25) (pc := 23) (by decide) dX11_put_23 fl_X11_235_7 sh_71 rfl (by unfold ge_Z; omega) ?_
    refine gq_if_ne (pc := 26) 35 dX11_put_26 (by decide) (fun h_26 => ?_) (fun h_26 => ?_)
    · refine gq_aload (pc := 35) dX11_put_35 rfl ?_
      refine gq_iload_n (pc := 37) dX11_put_37 rfl ?_
      refine gq_iconst (pc := 38) dX11_put_38 kc_1 ?_
      refine gq_rV2i (pc := 39) dX11_put_39 cv_X11_293 sh_71 (r_holds_71 _ _) ⟨by decide, by decide⟩ rfl rfl (Nat.le_of_ble_eq_true rfl) ?_
      refine gq_if_ne (pc := 42) 51 dX11_put_42 (by decide) (fun h_42 => ?_) (fun h_42 => ?_)
      · refine gq_aload (pc := 51) dX11_put_51 rfl ?_
        refine gq_getr (pc := 53) dX11_put_53 fl_X11_297_7 sh_71 rfl ?_
        refine gq_iload_n (pc := 56) dX11_put_56 rfl ?_
        refine gq_aload (pc := 57) dX11_put_57 rfl ?_
        refine gq_iload_n (pc := 59) dX11_put_59 rfl ?_
        refine gq_rV1i (pc := 60) dX11_put_60 cv_X11_303 sh_71 (r_low_71 _) ⟨by decide, by decide⟩ rfl rfl (Nat.le_of_ble_eq_true rfl) ?_
        refine kq_asto (pw := 25) (pc := 63) (by decide) dX11_put_63 sh_72 hi (by first | decide | omega) (by decide) ?_
        refine gq_iconst (pc := 64) dX11_put_64 kc_1 ?_
        exact gq_iret (pc := 65) rfl dX11_put_65 ⟨rfl, rfl⟩
      · exact absurd h_42 h2
    · exact absurd h_26 h
  · exact absurd (show p_nt (p_in 2 0 3) = 0 by decide) h_4
set_option maxHeartbeats 400000 in
theorem c_put_no_3 {i v : Int32} (h : g 73 2 = 0) : ge_N X ge_SH YX11_put 2 [.ref (ge_ad X.1 0), .int 3, .int i, .int v] (ge_k g 25 r x hb) (some (.int (-1000000000 - 2))) (ge_k (ge_up g 75 2 (g 75 2 + 1)) 25 r x hb) := by
  refine gq_ofB (l := [(0, .ref (ge_ad X.1 0)), (1, .int 3), (2, .int i), (3, .int v)]) (by decide) (Nat.le_of_ble_eq_true rfl) rfl ?_
  refine gq_iload_n (pc := 0) dX11_put_0 rfl ?_
  refine gq_rS1i (pc := 1) dX11_put_1 cs_X11_232 (c_noSheet _) ⟨by decide, by decide⟩ (Nat.le_of_ble_eq_true rfl) ?_
  refine gq_if_eq (pc := 4) 13 dX11_put_4 (by decide) (fun h_4 => ?_) (fun h_4 => ?_)
  · refine gq_aload_n (pc := 13) dX11_put_13 rfl ?_
    refine gq_getr (pc := 14) dX11_put_14 fl_X11_89_11 sh_0 rfl ?_
    refine gq_iload_n (pc := 17) dX11_put_17 rfl ?_
    refine gq_aald (pc := 18) dX11_put_18 sh_66 rfl kl_3 rfl (by decide) ?_
    refine gq_astore (pc := 19) (l' := [(4, _), (0, _), (1, _), (2, _), (3, _)]) dX11_put_19 (by decide) rfl ?_
    refine gq_aload (pc := 21) dX11_put_21 rfl ?_
    refine kq_geto (pw := 25) (pc := 23) (by decide) dX11_put_23 fl_X11_235_7 sh_73 rfl (by unfold ge_Z; omega) ?_
    refine gq_if_ne (pc := 26) 35 dX11_put_26 (by decide) (fun h_26 => ?_) (fun h_26 => ?_)
    · exact absurd h h_26
    · refine gq_aload_n (pc := 29) dX11_put_29 rfl ?_
      refine gq_iconst (pc := 30) dX11_put_30 kc_2 ?_
      refine gq_rV1i (pc := 31) dX11_put_31 cv_X11_109 sh_0 (c_error kl_2 (by decide)) ⟨by decide, by decide⟩ rfl rfl (Nat.le_of_ble_eq_true rfl) ?_
      exact gq_iret (pc := 34) rfl dX11_put_34 ⟨rfl, rfl⟩
  · exact absurd (show p_nt (p_in 3 0 3) = 0 by decide) h_4
set_option maxHeartbeats 400000 in
theorem c_put_er2_3 {i v : Int32} (h : ¬ g 73 2 = 0) (h2 : p_hold (g 73 1) i 1 = 0) : ge_N X ge_SH YX11_put 2 [.ref (ge_ad X.1 0), .int 3, .int i, .int v] (ge_k g 25 r x hb) (some (.int (-1000000000 - 1))) (ge_k (ge_up g 75 1 (g 75 1 + 1)) 25 r x hb) := by
  refine gq_ofB (l := [(0, .ref (ge_ad X.1 0)), (1, .int 3), (2, .int i), (3, .int v)]) (by decide) (Nat.le_of_ble_eq_true rfl) rfl ?_
  refine gq_iload_n (pc := 0) dX11_put_0 rfl ?_
  refine gq_rS1i (pc := 1) dX11_put_1 cs_X11_232 (c_noSheet _) ⟨by decide, by decide⟩ (Nat.le_of_ble_eq_true rfl) ?_
  refine gq_if_eq (pc := 4) 13 dX11_put_4 (by decide) (fun h_4 => ?_) (fun h_4 => ?_)
  · refine gq_aload_n (pc := 13) dX11_put_13 rfl ?_
    refine gq_getr (pc := 14) dX11_put_14 fl_X11_89_11 sh_0 rfl ?_
    refine gq_iload_n (pc := 17) dX11_put_17 rfl ?_
    refine gq_aald (pc := 18) dX11_put_18 sh_66 rfl kl_3 rfl (by decide) ?_
    refine gq_astore (pc := 19) (l' := [(4, _), (0, _), (1, _), (2, _), (3, _)]) dX11_put_19 (by decide) rfl ?_
    refine gq_aload (pc := 21) dX11_put_21 rfl ?_
    refine kq_geto (pw := 25) (pc := 23) (by decide) dX11_put_23 fl_X11_235_7 sh_73 rfl (by unfold ge_Z; omega) ?_
    refine gq_if_ne (pc := 26) 35 dX11_put_26 (by decide) (fun h_26 => ?_) (fun h_26 => ?_)
    · refine gq_aload (pc := 35) dX11_put_35 rfl ?_
      refine gq_iload_n (pc := 37) dX11_put_37 rfl ?_
      refine gq_iconst (pc := 38) dX11_put_38 kc_1 ?_
      refine gq_rV2i (pc := 39) dX11_put_39 cv_X11_293 sh_73 (r_holds_73 _ _) ⟨by decide, by decide⟩ rfl rfl (Nat.le_of_ble_eq_true rfl) ?_
      refine gq_if_ne (pc := 42) 51 dX11_put_42 (by decide) (fun h_42 => ?_) (fun h_42 => ?_)
      · exact absurd h2 h_42
      · refine gq_aload_n (pc := 45) dX11_put_45 rfl ?_
        refine gq_iconst (pc := 46) dX11_put_46 kc_1 ?_
        refine gq_rV1i (pc := 47) dX11_put_47 cv_X11_109 sh_0 (c_error kl_1 (by decide)) ⟨by decide, by decide⟩ rfl rfl (Nat.le_of_ble_eq_true rfl) ?_
        exact gq_iret (pc := 50) rfl dX11_put_50 ⟨rfl, rfl⟩
    · exact absurd h_26 h
  · exact absurd (show p_nt (p_in 3 0 3) = 0 by decide) h_4
set_option maxHeartbeats 400000 in
theorem c_put_ok_3 {i v : Int32} {a n : Nat} (h : ¬ g 73 2 = 0) (h2 : ¬ p_hold (g 73 1) i 1 = 0) (hi : i = nI a) (ha : a < 40) : ge_N X ge_SH YX11_put 2 [.ref (ge_ad X.1 0), .int 3, .int i, .int v] (ge_k g 25 r x hb) (some (.int 1)) (ge_k (ge_up g 74 a (p_low (g 73 2) v)) 25 r x hb) := by
  refine gq_ofB (l := [(0, .ref (ge_ad X.1 0)), (1, .int 3), (2, .int i), (3, .int v)]) (by decide) (Nat.le_of_ble_eq_true rfl) rfl ?_
  refine gq_iload_n (pc := 0) dX11_put_0 rfl ?_
  refine gq_rS1i (pc := 1) dX11_put_1 cs_X11_232 (c_noSheet _) ⟨by decide, by decide⟩ (Nat.le_of_ble_eq_true rfl) ?_
  refine gq_if_eq (pc := 4) 13 dX11_put_4 (by decide) (fun h_4 => ?_) (fun h_4 => ?_)
  · refine gq_aload_n (pc := 13) dX11_put_13 rfl ?_
    refine gq_getr (pc := 14) dX11_put_14 fl_X11_89_11 sh_0 rfl ?_
    refine gq_iload_n (pc := 17) dX11_put_17 rfl ?_
    refine gq_aald (pc := 18) dX11_put_18 sh_66 rfl kl_3 rfl (by decide) ?_
    refine gq_astore (pc := 19) (l' := [(4, _), (0, _), (1, _), (2, _), (3, _)]) dX11_put_19 (by decide) rfl ?_
    refine gq_aload (pc := 21) dX11_put_21 rfl ?_
    refine kq_geto (pw := 25) (pc := 23) (by decide) dX11_put_23 fl_X11_235_7 sh_73 rfl (by unfold ge_Z; omega) ?_
    refine gq_if_ne (pc := 26) 35 dX11_put_26 (by decide) (fun h_26 => ?_) (fun h_26 => ?_)
    · refine gq_aload (pc := 35) dX11_put_35 rfl ?_
      refine gq_iload_n (pc := 37) dX11_put_37 rfl ?_
      refine gq_iconst (pc := 38) dX11_put_38 kc_1 ?_
      refine gq_rV2i (pc := 39) dX11_put_39 cv_X11_293 sh_73 (r_holds_73 _ _) ⟨by decide, by decide⟩ rfl rfl (Nat.le_of_ble_eq_true rfl) ?_
      refine gq_if_ne (pc := 42) 51 dX11_put_42 (by decide) (fun h_42 => ?_) (fun h_42 => ?_)
      · refine gq_aload (pc := 51) dX11_put_51 rfl ?_
        refine gq_getr (pc := 53) dX11_put_53 fl_X11_297_7 sh_73 rfl ?_
        refine gq_iload_n (pc := 56) dX11_put_56 rfl ?_
        refine gq_aload (pc := 57) dX11_put_57 rfl ?_
        refine gq_iload_n (pc := 59) dX11_put_59 rfl ?_
        refine gq_rV1i (pc := 60) dX11_put_60 cv_X11_303 sh_73 (r_low_73 _) ⟨by decide, by decide⟩ rfl rfl (Nat.le_of_ble_eq_true rfl) ?_
        refine kq_asto (pw := 25) (pc := 63) (by decide) dX11_put_63 sh_74 hi (by first | decide | omega) (by decide) ?_
        refine gq_iconst (pc := 64) dX11_put_64 kc_1 ?_
        exact gq_iret (pc := 65) rfl dX11_put_65 ⟨rfl, rfl⟩
      · exact absurd h_42 h2
    · exact absurd h_26 h
  · exact absurd (show p_nt (p_in 3 0 3) = 0 by decide) h_4
set_option maxHeartbeats 400000 in
theorem m_move_er1 {s i o j n : Int32} (h : p_in s 0 3 = 0 ∨ p_in o 0 3 = 0) : ge_N X ge_SH YX12_move 2 [.ref (ge_ad X.1 76), .int s, .int i, .int o, .int j, .int n] (ge_m g r f) (some (.int (-1000000001))) (ge_m (ge_up g 81 1 (g 81 1 + 1)) r f) := by
  refine gq_ofB (l := [(0, .ref (ge_ad X.1 76)), (1, .int s), (2, .int i), (3, .int o), (4, .int j), (5, .int n)]) (by decide) (Nat.le_of_ble_eq_true rfl) rfl ?_
  refine gq_iload_n (pc := 0) dX12_move_0 rfl ?_
  refine gq_rS1i (pc := 1) dX12_move_1 cs_X12_203 (k_isSheet _) ⟨by decide, by decide⟩ (Nat.le_of_ble_eq_true rfl) ?_
  refine gq_if_eq (pc := 4) 14 dX12_move_4 (by decide) (fun h_4 => ?_) (fun h_4 => ?_)
  · refine gq_aload_n (pc := 14) dX12_move_14 rfl ?_
    refine gq_ldc (pc := 15) dX12_move_15 kn_X12_53 ?_
    refine gq_rV1i (pc := 17) dX12_move_17 cv_X12_54 sh_76 (k_errs (j := 1) (by decide) (by decide)) ⟨by decide, by decide⟩ rfl rfl (Nat.le_of_ble_eq_true rfl) ?_
    exact gq_iret (pc := 20) rfl dX12_move_20 ⟨rfl, rfl⟩
  · refine gq_iload_n (pc := 7) dX12_move_7 rfl ?_
    refine gq_rS1i (pc := 8) dX12_move_8 cs_X12_203 (k_isSheet _) ⟨by decide, by decide⟩ (Nat.le_of_ble_eq_true rfl) ?_
    refine gq_if_ne (pc := 11) 21 dX12_move_11 (by decide) (fun h_11 => ?_) (fun h_11 => ?_)
    · exact (h.elim h_4 h_11).elim
    · refine gq_aload_n (pc := 14) dX12_move_14 rfl ?_
      refine gq_ldc (pc := 15) dX12_move_15 kn_X12_53 ?_
      refine gq_rV1i (pc := 17) dX12_move_17 cv_X12_54 sh_76 (k_errs (j := 1) (by decide) (by decide)) ⟨by decide, by decide⟩ rfl rfl (Nat.le_of_ble_eq_true rfl) ?_
      exact gq_iret (pc := 20) rfl dX12_move_20 ⟨rfl, rfl⟩
set_option maxHeartbeats 400000 in
theorem c_move_er1 {s i o j n : Int32} (h : p_in s 0 3 = 0 ∨ p_in o 0 3 = 0) : ge_N X ge_SH YX11_move 2 [.ref (ge_ad X.1 0), .int s, .int i, .int o, .int j, .int n] (ge_k g 25 r x hb) (some (.int (-1000000000 - 1))) (ge_k (ge_up g 75 1 (g 75 1 + 1)) 25 r x hb) := by
  refine gq_ofB (l := [(0, .ref (ge_ad X.1 0)), (1, .int s), (2, .int i), (3, .int o), (4, .int j), (5, .int n)]) (by decide) (Nat.le_of_ble_eq_true rfl) rfl ?_
  refine gq_iload_n (pc := 0) dX11_move_0 rfl ?_
  refine gq_rS1i (pc := 1) dX11_move_1 cs_X11_232 (c_noSheet _) ⟨by decide, by decide⟩ (Nat.le_of_ble_eq_true rfl) ?_
  refine gq_if_ne (pc := 4) 14 dX11_move_4 (by decide) (fun h_4 => ?_) (fun h_4 => ?_)
  · refine gq_aload_n (pc := 14) dX11_move_14 rfl ?_
    refine gq_iconst (pc := 15) dX11_move_15 kc_1 ?_
    refine gq_rV1i (pc := 16) dX11_move_16 cv_X11_109 sh_0 (c_error kl_1 (by decide)) ⟨by decide, by decide⟩ rfl rfl (Nat.le_of_ble_eq_true rfl) ?_
    exact gq_iret (pc := 19) rfl dX11_move_19 ⟨rfl, rfl⟩
  · refine gq_iload_n (pc := 7) dX11_move_7 rfl ?_
    refine gq_rS1i (pc := 8) dX11_move_8 cs_X11_232 (c_noSheet _) ⟨by decide, by decide⟩ (Nat.le_of_ble_eq_true rfl) ?_
    refine gq_if_eq (pc := 11) 20 dX11_move_11 (by decide) (fun h_11 => ?_) (fun h_11 => ?_)
    · exact (h.elim (p_nt_0.mp h_4) (p_nt_0.mp h_11)).elim
    · refine gq_aload_n (pc := 14) dX11_move_14 rfl ?_
      refine gq_iconst (pc := 15) dX11_move_15 kc_1 ?_
      refine gq_rV1i (pc := 16) dX11_move_16 cv_X11_109 sh_0 (c_error kl_1 (by decide)) ⟨by decide, by decide⟩ rfl rfl (Nat.le_of_ble_eq_true rfl) ?_
      exact gq_iret (pc := 19) rfl dX11_move_19 ⟨rfl, rfl⟩
set_option maxHeartbeats 400000 in
theorem m_move_no {s : Int32} {S : Nat} (hs : s = nI S) (hS : S ≤ 3) {o : Int32} {O : Nat} (ho : o = nI O) (hO : O ≤ 3) {i j n : Int32} (h : g 82 S = 0 ∨ g 82 O = 0) : ge_N X ge_SH YX12_move 2 [.ref (ge_ad X.1 76), .int s, .int i, .int o, .int j, .int n] (ge_m g r f) (some (.int (-1000000002))) (ge_m (ge_up g 81 2 (g 81 2 + 1)) r f) := by
  refine gq_ofB (l := [(0, .ref (ge_ad X.1 76)), (1, .int s), (2, .int i), (3, .int o), (4, .int j), (5, .int n)]) (by decide) (Nat.le_of_ble_eq_true rfl) rfl ?_
  refine gq_iload_n (pc := 0) dX12_move_0 rfl ?_
  refine gq_rS1i (pc := 1) dX12_move_1 cs_X12_203 (k_isSheet _) ⟨by decide, by decide⟩ (Nat.le_of_ble_eq_true rfl) ?_
  refine gq_if_eq (pc := 4) 14 dX12_move_4 (by decide) (fun h_4 => ?_) (fun h_4 => ?_)
  · exact absurd h_4 (p_in_le (N := 3) hs hS (by decide))
  · refine gq_iload_n (pc := 7) dX12_move_7 rfl ?_
    refine gq_rS1i (pc := 8) dX12_move_8 cs_X12_203 (k_isSheet _) ⟨by decide, by decide⟩ (Nat.le_of_ble_eq_true rfl) ?_
    refine gq_if_ne (pc := 11) 21 dX12_move_11 (by decide) (fun h_11 => ?_) (fun h_11 => ?_)
    · refine gq_aload_n (pc := 21) dX12_move_21 rfl ?_
      refine gq_getr (pc := 22) dX12_move_22 fl_X12_25_12 sh_76 rfl ?_
      refine gq_iload_n (pc := 25) dX12_move_25 rfl ?_
      refine qm_aldo (pc := 26) dX12_move_26 sh_82 (by decide) hs (by first | decide | omega) (by decide) ?_
      refine gq_if_eq (pc := 27) 39 dX12_move_27 (by decide) (fun h_27 => ?_) (fun h_27 => ?_)
      · refine gq_aload_n (pc := 39) dX12_move_39 rfl ?_
        refine gq_ldc (pc := 40) dX12_move_40 kn_X12_202 ?_
        refine gq_rV1i (pc := 42) dX12_move_42 cv_X12_54 sh_76 (k_errs (j := 2) (by decide) (by decide)) ⟨by decide, by decide⟩ rfl rfl (Nat.le_of_ble_eq_true rfl) ?_
        exact gq_iret (pc := 45) rfl dX12_move_45 ⟨rfl, rfl⟩
      · refine gq_aload_n (pc := 30) dX12_move_30 rfl ?_
        refine gq_getr (pc := 31) dX12_move_31 fl_X12_25_12 sh_76 rfl ?_
        refine gq_iload_n (pc := 34) dX12_move_34 rfl ?_
        refine qm_aldo (pc := 35) dX12_move_35 sh_82 (by decide) ho (by first | decide | omega) (by decide) ?_
        refine gq_if_ne (pc := 36) 46 dX12_move_36 (by decide) (fun h_36 => ?_) (fun h_36 => ?_)
        · exact (h.elim h_27 h_36).elim
        · refine gq_aload_n (pc := 39) dX12_move_39 rfl ?_
          refine gq_ldc (pc := 40) dX12_move_40 kn_X12_202 ?_
          refine gq_rV1i (pc := 42) dX12_move_42 cv_X12_54 sh_76 (k_errs (j := 2) (by decide) (by decide)) ⟨by decide, by decide⟩ rfl rfl (Nat.le_of_ble_eq_true rfl) ?_
          exact gq_iret (pc := 45) rfl dX12_move_45 ⟨rfl, rfl⟩
    · exact absurd h_11 (p_in_le (N := 3) ho hO (by decide))
set_option maxHeartbeats 400000 in
theorem m_move_ki {s : Int32} {S : Nat} (hs : s = nI S) (hS : S ≤ 3) {o : Int32} {O : Nat} (ho : o = nI O) (hO : O ≤ 3) {i j n : Int32} (h1 : ¬ g 82 S = 0) (h2 : ¬ g 82 O = 0) (h3 : ¬ g 82 S = g 82 O) : ge_N X ge_SH YX12_move 2 [.ref (ge_ad X.1 76), .int s, .int i, .int o, .int j, .int n] (ge_m g r f) (some (.int (-1000000005))) (ge_m (ge_up g 81 5 (g 81 5 + 1)) r f) := by
  refine gq_ofB (l := [(0, .ref (ge_ad X.1 76)), (1, .int s), (2, .int i), (3, .int o), (4, .int j), (5, .int n)]) (by decide) (Nat.le_of_ble_eq_true rfl) rfl ?_
  refine gq_iload_n (pc := 0) dX12_move_0 rfl ?_
  refine gq_rS1i (pc := 1) dX12_move_1 cs_X12_203 (k_isSheet _) ⟨by decide, by decide⟩ (Nat.le_of_ble_eq_true rfl) ?_
  refine gq_if_eq (pc := 4) 14 dX12_move_4 (by decide) (fun h_4 => ?_) (fun h_4 => ?_)
  · exact absurd h_4 (p_in_le (N := 3) hs hS (by decide))
  · refine gq_iload_n (pc := 7) dX12_move_7 rfl ?_
    refine gq_rS1i (pc := 8) dX12_move_8 cs_X12_203 (k_isSheet _) ⟨by decide, by decide⟩ (Nat.le_of_ble_eq_true rfl) ?_
    refine gq_if_ne (pc := 11) 21 dX12_move_11 (by decide) (fun h_11 => ?_) (fun h_11 => ?_)
    · refine gq_aload_n (pc := 21) dX12_move_21 rfl ?_
      refine gq_getr (pc := 22) dX12_move_22 fl_X12_25_12 sh_76 rfl ?_
      refine gq_iload_n (pc := 25) dX12_move_25 rfl ?_
      refine qm_aldo (pc := 26) dX12_move_26 sh_82 (by decide) hs (by first | decide | omega) (by decide) ?_
      refine gq_if_eq (pc := 27) 39 dX12_move_27 (by decide) (fun h_27 => ?_) (fun h_27 => ?_)
      · exact absurd h_27 h1
      · refine gq_aload_n (pc := 30) dX12_move_30 rfl ?_
        refine gq_getr (pc := 31) dX12_move_31 fl_X12_25_12 sh_76 rfl ?_
        refine gq_iload_n (pc := 34) dX12_move_34 rfl ?_
        refine qm_aldo (pc := 35) dX12_move_35 sh_82 (by decide) ho (by first | decide | omega) (by decide) ?_
        refine gq_if_ne (pc := 36) 46 dX12_move_36 (by decide) (fun h_36 => ?_) (fun h_36 => ?_)
        · refine gq_aload_n (pc := 46) dX12_move_46 rfl ?_
          refine gq_getr (pc := 47) dX12_move_47 fl_X12_25_12 sh_76 rfl ?_
          refine gq_iload_n (pc := 50) dX12_move_50 rfl ?_
          refine qm_aldo (pc := 51) dX12_move_51 sh_82 (by decide) hs (by first | decide | omega) (by decide) ?_
          refine gq_aload_n (pc := 52) dX12_move_52 rfl ?_
          refine gq_getr (pc := 53) dX12_move_53 fl_X12_25_12 sh_76 rfl ?_
          refine gq_iload_n (pc := 56) dX12_move_56 rfl ?_
          refine qm_aldo (pc := 57) dX12_move_57 sh_82 (by decide) ho (by first | decide | omega) (by decide) ?_
          refine gq_ic_eq (pc := 58) 68 dX12_move_58 (by decide) (fun h_58 => ?_) (fun h_58 => ?_)
          · exact absurd h_58 h3
          · refine gq_aload_n (pc := 61) dX12_move_61 rfl ?_
            refine gq_ldc (pc := 62) dX12_move_62 kn_X12_96 ?_
            refine gq_rV1i (pc := 64) dX12_move_64 cv_X12_54 sh_76 (k_errs (j := 5) (by decide) (by decide)) ⟨by decide, by decide⟩ rfl rfl (Nat.le_of_ble_eq_true rfl) ?_
            exact gq_iret (pc := 67) rfl dX12_move_67 ⟨rfl, rfl⟩
        · exact absurd h_36 h2
    · exact absurd h_11 (p_in_le (N := 3) ho hO (by decide))
set_option maxHeartbeats 400000 in
theorem m_move_er2 {s : Int32} {S : Nat} (hs : s = nI S) (hS : S ≤ 3) {o : Int32} {O : Nat} (ho : o = nI O) (hO : O ≤ 3) {i j n : Int32} (h1 : ¬ g 82 S = 0) (h2 : ¬ g 82 O = 0) (h3 : g 82 S = g 82 O) (h4 : p_hold (g 83 S) i n = 0 ∨ p_hold (g 83 O) j n = 0) : ge_N X ge_SH YX12_move 2 [.ref (ge_ad X.1 76), .int s, .int i, .int o, .int j, .int n] (ge_m g r f) (some (.int (-1000000001))) (ge_m (ge_up g 81 1 (g 81 1 + 1)) r f) := by
  refine gq_ofB (l := [(0, .ref (ge_ad X.1 76)), (1, .int s), (2, .int i), (3, .int o), (4, .int j), (5, .int n)]) (by decide) (Nat.le_of_ble_eq_true rfl) rfl ?_
  refine gq_iload_n (pc := 0) dX12_move_0 rfl ?_
  refine gq_rS1i (pc := 1) dX12_move_1 cs_X12_203 (k_isSheet _) ⟨by decide, by decide⟩ (Nat.le_of_ble_eq_true rfl) ?_
  refine gq_if_eq (pc := 4) 14 dX12_move_4 (by decide) (fun h_4 => ?_) (fun h_4 => ?_)
  · exact absurd h_4 (p_in_le (N := 3) hs hS (by decide))
  · refine gq_iload_n (pc := 7) dX12_move_7 rfl ?_
    refine gq_rS1i (pc := 8) dX12_move_8 cs_X12_203 (k_isSheet _) ⟨by decide, by decide⟩ (Nat.le_of_ble_eq_true rfl) ?_
    refine gq_if_ne (pc := 11) 21 dX12_move_11 (by decide) (fun h_11 => ?_) (fun h_11 => ?_)
    · refine gq_aload_n (pc := 21) dX12_move_21 rfl ?_
      refine gq_getr (pc := 22) dX12_move_22 fl_X12_25_12 sh_76 rfl ?_
      refine gq_iload_n (pc := 25) dX12_move_25 rfl ?_
      refine qm_aldo (pc := 26) dX12_move_26 sh_82 (by decide) hs (by first | decide | omega) (by decide) ?_
      refine gq_if_eq (pc := 27) 39 dX12_move_27 (by decide) (fun h_27 => ?_) (fun h_27 => ?_)
      · exact absurd h_27 h1
      · refine gq_aload_n (pc := 30) dX12_move_30 rfl ?_
        refine gq_getr (pc := 31) dX12_move_31 fl_X12_25_12 sh_76 rfl ?_
        refine gq_iload_n (pc := 34) dX12_move_34 rfl ?_
        refine qm_aldo (pc := 35) dX12_move_35 sh_82 (by decide) ho (by first | decide | omega) (by decide) ?_
        refine gq_if_ne (pc := 36) 46 dX12_move_36 (by decide) (fun h_36 => ?_) (fun h_36 => ?_)
        · refine gq_aload_n (pc := 46) dX12_move_46 rfl ?_
          refine gq_getr (pc := 47) dX12_move_47 fl_X12_25_12 sh_76 rfl ?_
          refine gq_iload_n (pc := 50) dX12_move_50 rfl ?_
          refine qm_aldo (pc := 51) dX12_move_51 sh_82 (by decide) hs (by first | decide | omega) (by decide) ?_
          refine gq_aload_n (pc := 52) dX12_move_52 rfl ?_
          refine gq_getr (pc := 53) dX12_move_53 fl_X12_25_12 sh_76 rfl ?_
          refine gq_iload_n (pc := 56) dX12_move_56 rfl ?_
          refine qm_aldo (pc := 57) dX12_move_57 sh_82 (by decide) ho (by first | decide | omega) (by decide) ?_
          refine gq_ic_eq (pc := 58) 68 dX12_move_58 (by decide) (fun h_58 => ?_) (fun h_58 => ?_)
          · refine gq_iload (pc := 68) dX12_move_68 rfl ?_
            refine gq_if_lt (pc := 70) 109 dX12_move_70 (by decide) (fun h_70 => ?_) (fun h_70 => ?_)
            · refine gq_aload_n (pc := 109) dX12_move_109 rfl ?_
              refine gq_ldc (pc := 110) dX12_move_110 kn_X12_53 ?_
              refine gq_rV1i (pc := 112) dX12_move_112 cv_X12_54 sh_76 (k_errs (j := 1) (by decide) (by decide)) ⟨by decide, by decide⟩ rfl rfl (Nat.le_of_ble_eq_true rfl) ?_
              exact gq_iret (pc := 115) rfl dX12_move_115 ⟨rfl, rfl⟩
            · refine gq_iload_n (pc := 73) dX12_move_73 rfl ?_
              refine gq_if_lt (pc := 74) 109 dX12_move_74 (by decide) (fun h_74 => ?_) (fun h_74 => ?_)
              · refine gq_aload_n (pc := 109) dX12_move_109 rfl ?_
                refine gq_ldc (pc := 110) dX12_move_110 kn_X12_53 ?_
                refine gq_rV1i (pc := 112) dX12_move_112 cv_X12_54 sh_76 (k_errs (j := 1) (by decide) (by decide)) ⟨by decide, by decide⟩ rfl rfl (Nat.le_of_ble_eq_true rfl) ?_
                exact gq_iret (pc := 115) rfl dX12_move_115 ⟨rfl, rfl⟩
              · refine gq_iload (pc := 77) dX12_move_77 rfl ?_
                refine gq_if_lt (pc := 79) 109 dX12_move_79 (by decide) (fun h_79 => ?_) (fun h_79 => ?_)
                · refine gq_aload_n (pc := 109) dX12_move_109 rfl ?_
                  refine gq_ldc (pc := 110) dX12_move_110 kn_X12_53 ?_
                  refine gq_rV1i (pc := 112) dX12_move_112 cv_X12_54 sh_76 (k_errs (j := 1) (by decide) (by decide)) ⟨by decide, by decide⟩ rfl rfl (Nat.le_of_ble_eq_true rfl) ?_
                  exact gq_iret (pc := 115) rfl dX12_move_115 ⟨rfl, rfl⟩
                · refine gq_iload_n (pc := 82) dX12_move_82 rfl ?_
                  refine gq_aload_n (pc := 83) dX12_move_83 rfl ?_
                  refine gq_getr (pc := 84) dX12_move_84 fl_X12_28_12 sh_76 rfl ?_
                  refine gq_iload_n (pc := 87) dX12_move_87 rfl ?_
                  refine qm_aldo (pc := 88) dX12_move_88 sh_83 (by decide) hs (by first | decide | omega) (by decide) ?_
                  refine gq_iload (pc := 89) dX12_move_89 rfl ?_
                  refine gq_isub (pc := 91) dX12_move_91 ?_
                  refine gq_ic_gt (pc := 92) 109 dX12_move_92 (by decide) (fun h_92 => ?_) (fun h_92 => ?_)
                  · refine gq_aload_n (pc := 109) dX12_move_109 rfl ?_
                    refine gq_ldc (pc := 110) dX12_move_110 kn_X12_53 ?_
                    refine gq_rV1i (pc := 112) dX12_move_112 cv_X12_54 sh_76 (k_errs (j := 1) (by decide) (by decide)) ⟨by decide, by decide⟩ rfl rfl (Nat.le_of_ble_eq_true rfl) ?_
                    exact gq_iret (pc := 115) rfl dX12_move_115 ⟨rfl, rfl⟩
                  · refine gq_iload (pc := 95) dX12_move_95 rfl ?_
                    refine gq_aload_n (pc := 97) dX12_move_97 rfl ?_
                    refine gq_getr (pc := 98) dX12_move_98 fl_X12_28_12 sh_76 rfl ?_
                    refine gq_iload_n (pc := 101) dX12_move_101 rfl ?_
                    refine qm_aldo (pc := 102) dX12_move_102 sh_83 (by decide) ho (by first | decide | omega) (by decide) ?_
                    refine gq_iload (pc := 103) dX12_move_103 rfl ?_
                    refine gq_isub (pc := 105) dX12_move_105 ?_
                    refine gq_ic_le (pc := 106) 116 dX12_move_106 (by decide) (fun h_106 => ?_) (fun h_106 => ?_)
                    · exact h4.elim (fun q => absurd q (by unfold p_hold; rw [if_neg h_74, if_neg h_70, if_neg h_92]; decide)) (fun q => absurd q (by unfold p_hold; rw [if_neg h_79, if_neg h_70, if_neg (Int32.not_lt.mpr h_106)]; decide))
                    · refine gq_aload_n (pc := 109) dX12_move_109 rfl ?_
                      refine gq_ldc (pc := 110) dX12_move_110 kn_X12_53 ?_
                      refine gq_rV1i (pc := 112) dX12_move_112 cv_X12_54 sh_76 (k_errs (j := 1) (by decide) (by decide)) ⟨by decide, by decide⟩ rfl rfl (Nat.le_of_ble_eq_true rfl) ?_
                      exact gq_iret (pc := 115) rfl dX12_move_115 ⟨rfl, rfl⟩
          · exact absurd h3 h_58
        · exact absurd h_36 h2
    · exact absurd h_11 (p_in_le (N := 3) ho hO (by decide))
set_option maxHeartbeats 1000000 in
theorem m_move_ok {s : Int32} {S : Nat} (hs : s = nI S) (hS : S ≤ 3) {o : Int32} {O : Nat} (ho : o = nI O) (hO : O ≤ 3) {i j n : Int32} (h1 : ¬ g 82 S = 0) (h2 : ¬ g 82 O = 0) (h3 : g 82 S = g 82 O) {a b m : Nat} (ea : i = nI a) (eb : j = nI b) (em : n = nI m) {nS nO : Nat} (hnS : g 83 S = nI nS) (hnO : g 83 O = nI nO) (q1 : a + m ≤ nS) (q2 : b + m ≤ nO) (q3 : nS ≤ 40) (q4 : nO ≤ 40) : ge_N X ge_SH YX12_move 2 [.ref (ge_ad X.1 76), .int s, .int i, .int o, .int j, .int n] (ge_m g r f) (some (.int n)) (ge_m (ge_row (ge_row g 85 (fun k => if k < m then g 84 (40 * S + a + k) else g 85 k)) 84 (fun k => if 40 * O + b ≤ k ∧ k < 40 * O + b + m then g 84 (40 * S + a + (k - (40 * O + b))) else g 84 k)) r f) := by
  refine gq_ofB (l := [(0, .ref (ge_ad X.1 76)), (1, .int s), (2, .int i), (3, .int o), (4, .int j), (5, .int n)]) (by decide) (Nat.le_of_ble_eq_true rfl) rfl ?_
  have key2 : ∀ (u e : Nat), e + u = m → ge_B X ge_SH YX12_move 2 (fun v2 g2 => v2 = (some (.int n)) ∧ g2 = (ge_m (ge_row (ge_row g 85 (fun k => if k < m then g 84 (40 * S + a + k) else g 85 k)) 84 (fun k => if 40 * O + b ≤ k ∧ k < 40 * O + b + m then g 84 (40 * S + a + (k - (40 * O + b))) else g 84 k)) r f)) 156 [(6, .int (nI e)), (0, .ref (ge_ad X.1 76)), (1, .int s), (2, .int i), (3, .int o), (4, .int j), (5, .int n)] [] (ge_m (ge_row (ge_row g 85 (fun k => if k < m then g 84 (40 * S + a + k) else g 85 k)) 84 (fun k => if 40 * O + b ≤ k ∧ k < 40 * O + b + e then g 84 (40 * S + a + (k - (40 * O + b))) else g 84 k)) r f) := by
    intro u
    induction u with
    | zero =>
      intro e he
      obtain rfl : e = m := he
      refine gq_iload (pc := 156) dX12_move_156 rfl ?_
      refine gq_iload (pc := 158) dX12_move_158 rfl ?_
      refine gq_ic_ge (pc := 160) 191 dX12_move_160 (by decide) (fun h_160 => ?_) (fun h_160 => ?_)
      · refine gq_iload (pc := 191) dX12_move_191 rfl ?_
        exact gq_iret (pc := 193) rfl dX12_move_193 ⟨rfl, rfl⟩
      · exact absurd (by rw [em]; exact Int32.le_refl _) h_160
    | succ u ih =>
      intro e he
      refine gq_iload (pc := 156) dX12_move_156 rfl ?_
      refine gq_iload (pc := 158) dX12_move_158 rfl ?_
      refine gq_ic_ge (pc := 160) 191 dX12_move_160 (by decide) (fun h_160 => ?_) (fun h_160 => ?_)
      · rw [em] at h_160
        exact absurd ((nI_leI (a := m) (b := e) (by omega) (by omega)).mp h_160) (by omega)
      · refine gq_aload_n (pc := 163) dX12_move_163 rfl ?_
        refine gq_getr (pc := 164) dX12_move_164 fl_X12_31_12 sh_76 rfl ?_
        refine gq_bipush (pc := 167) dX12_move_167 kb_40 ?_
        refine gq_iload_n (pc := 169) dX12_move_169 rfl ?_
        refine gq_imul (pc := 170) dX12_move_170 ?_
        refine gq_iload (pc := 171) dX12_move_171 rfl ?_
        refine gq_iadd (pc := 173) dX12_move_173 ?_
        refine gq_iload (pc := 174) dX12_move_174 rfl ?_
        refine gq_iadd (pc := 176) dX12_move_176 ?_
        refine gq_aload_n (pc := 177) dX12_move_177 rfl ?_
        refine gq_getr (pc := 178) dX12_move_178 fl_X12_34_12 sh_76 rfl ?_
        refine gq_iload (pc := 181) dX12_move_181 rfl ?_
        refine qm_aldo (pc := 183) dX12_move_183 sh_85 (by decide) rfl (by first | decide | omega) (by decide) ?_
        refine qm_asto (pc := 184) dX12_move_184 sh_84 (by decide) (by rw [ho, eb, show (40 : Int32) * nI O = nI (40 * O) from pk_mul 40 O, nI_add, nI_add]) (by first | decide | omega) (by decide) ?_
        refine gq_iinc (pc := 185) (l' := [(6, _), (0, _), (1, _), (2, _), (3, _), (4, _), (5, _)]) dX12_move_185 rfl (ge_inc1 e) (by decide) rfl ?_
        refine gq_goto (pc := 188) 156 dX12_move_188 (by decide) ?_
        refine gq_sub [0, 1, 2, 3, 4, 5, 6] rfl ?_
        refine gq_tog ?_ (ih (e + 1) (by omega))
        rw [ge_up17, ge_row_ne _ _ (by decide), ge_row_self, if_pos (by omega)]
        congr 2
        funext k
        by_cases hj : k = 40 * O + b + e
        · subst hj; rw [if_pos (by omega), pk_us]; congr 1; omega
        · rw [pk_un hj]; by_cases hk : 40 * O + b ≤ k ∧ k < 40 * O + b + e
          · rw [if_pos (by omega), if_pos hk]
          · rw [if_neg (by omega), if_neg hk]
  have key1 : ∀ (u e : Nat), e + u = m → ge_B X ge_SH YX12_move 2 (fun v2 g2 => v2 = (some (.int n)) ∧ g2 = (ge_m (ge_row (ge_row g 85 (fun k => if k < m then g 84 (40 * S + a + k) else g 85 k)) 84 (fun k => if 40 * O + b ≤ k ∧ k < 40 * O + b + m then g 84 (40 * S + a + (k - (40 * O + b))) else g 84 k)) r f)) 119 [(6, .int (nI e)), (0, .ref (ge_ad X.1 76)), (1, .int s), (2, .int i), (3, .int o), (4, .int j), (5, .int n)] [] (ge_m (ge_row g 85 (fun k => if k < e then g 84 (40 * S + a + k) else g 85 k)) r f) := by
    intro u
    induction u with
    | zero =>
      intro e he
      obtain rfl : e = m := he
      refine gq_iload (pc := 119) dX12_move_119 rfl ?_
      refine gq_iload (pc := 121) dX12_move_121 rfl ?_
      refine gq_ic_ge (pc := 123) 153 dX12_move_123 (by decide) (fun h_123 => ?_) (fun h_123 => ?_)
      · refine gq_iconst (pc := 153) dX12_move_153 kc_0 ?_
        refine gq_istore (pc := 154) (l' := [(6, _), (0, _), (1, _), (2, _), (3, _), (4, _), (5, _)]) dX12_move_154 (by decide) rfl ?_
        refine gq_sub [0, 1, 2, 3, 4, 5, 6] rfl ?_
        refine gq_tog ?_ (key2 e 0 (by omega))
        congr 1
        funext q
        by_cases hq : q = 84
        · subst hq; rw [ge_row_self, ge_row_ne _ _ (by decide)]; funext k; rw [if_neg (by omega)]
        · rw [ge_row_ne _ _ hq]
      · exact absurd (by rw [em]; exact Int32.le_refl _) h_123
    | succ u ih =>
      intro e he
      refine gq_iload (pc := 119) dX12_move_119 rfl ?_
      refine gq_iload (pc := 121) dX12_move_121 rfl ?_
      refine gq_ic_ge (pc := 123) 153 dX12_move_123 (by decide) (fun h_123 => ?_) (fun h_123 => ?_)
      · rw [em] at h_123
        exact absurd ((nI_leI (a := m) (b := e) (by omega) (by omega)).mp h_123) (by omega)
      · refine gq_aload_n (pc := 126) dX12_move_126 rfl ?_
        refine gq_getr (pc := 127) dX12_move_127 fl_X12_34_12 sh_76 rfl ?_
        refine gq_iload (pc := 130) dX12_move_130 rfl ?_
        refine gq_aload_n (pc := 132) dX12_move_132 rfl ?_
        refine gq_getr (pc := 133) dX12_move_133 fl_X12_31_12 sh_76 rfl ?_
        refine gq_bipush (pc := 136) dX12_move_136 kb_40 ?_
        refine gq_iload_n (pc := 138) dX12_move_138 rfl ?_
        refine gq_imul (pc := 139) dX12_move_139 ?_
        refine gq_iload_n (pc := 140) dX12_move_140 rfl ?_
        refine gq_iadd (pc := 141) dX12_move_141 ?_
        refine gq_iload (pc := 142) dX12_move_142 rfl ?_
        refine gq_iadd (pc := 144) dX12_move_144 ?_
        refine qm_aldo (pc := 145) dX12_move_145 sh_84 (by decide) (by rw [hs, ea, show (40 : Int32) * nI S = nI (40 * S) from pk_mul 40 S, nI_add, nI_add]) (by first | decide | omega) (by decide) ?_
        refine qm_asto (pc := 146) dX12_move_146 sh_85 (by decide) rfl (by first | decide | omega) (by decide) ?_
        refine gq_iinc (pc := 147) (l' := [(6, _), (0, _), (1, _), (2, _), (3, _), (4, _), (5, _)]) dX12_move_147 rfl (ge_inc1 e) (by decide) rfl ?_
        refine gq_goto (pc := 150) 119 dX12_move_150 (by decide) ?_
        refine gq_sub [0, 1, 2, 3, 4, 5, 6] rfl ?_
        refine gq_tog ?_ (ih (e + 1) (by omega))
        rw [ge_up17, ge_row_ne _ _ (by decide)]
        congr 2
        funext k
        by_cases hj : k = e
        · subst hj; rw [if_pos (by omega), pk_us]
        · rw [pk_un hj]; by_cases hk : k < e
          · rw [if_pos (by omega), if_pos hk]
          · rw [if_neg (by omega), if_neg hk]
  refine gq_iload_n (pc := 0) dX12_move_0 rfl ?_
  refine gq_rS1i (pc := 1) dX12_move_1 cs_X12_203 (k_isSheet _) ⟨by decide, by decide⟩ (Nat.le_of_ble_eq_true rfl) ?_
  refine gq_if_eq (pc := 4) 14 dX12_move_4 (by decide) (fun h_4 => ?_) (fun h_4 => ?_)
  · exact absurd h_4 (p_in_le (N := 3) hs hS (by decide))
  · refine gq_iload_n (pc := 7) dX12_move_7 rfl ?_
    refine gq_rS1i (pc := 8) dX12_move_8 cs_X12_203 (k_isSheet _) ⟨by decide, by decide⟩ (Nat.le_of_ble_eq_true rfl) ?_
    refine gq_if_ne (pc := 11) 21 dX12_move_11 (by decide) (fun h_11 => ?_) (fun h_11 => ?_)
    · refine gq_aload_n (pc := 21) dX12_move_21 rfl ?_
      refine gq_getr (pc := 22) dX12_move_22 fl_X12_25_12 sh_76 rfl ?_
      refine gq_iload_n (pc := 25) dX12_move_25 rfl ?_
      refine qm_aldo (pc := 26) dX12_move_26 sh_82 (by decide) hs (by first | decide | omega) (by decide) ?_
      refine gq_if_eq (pc := 27) 39 dX12_move_27 (by decide) (fun h_27 => ?_) (fun h_27 => ?_)
      · exact absurd h_27 h1
      · refine gq_aload_n (pc := 30) dX12_move_30 rfl ?_
        refine gq_getr (pc := 31) dX12_move_31 fl_X12_25_12 sh_76 rfl ?_
        refine gq_iload_n (pc := 34) dX12_move_34 rfl ?_
        refine qm_aldo (pc := 35) dX12_move_35 sh_82 (by decide) ho (by first | decide | omega) (by decide) ?_
        refine gq_if_ne (pc := 36) 46 dX12_move_36 (by decide) (fun h_36 => ?_) (fun h_36 => ?_)
        · refine gq_aload_n (pc := 46) dX12_move_46 rfl ?_
          refine gq_getr (pc := 47) dX12_move_47 fl_X12_25_12 sh_76 rfl ?_
          refine gq_iload_n (pc := 50) dX12_move_50 rfl ?_
          refine qm_aldo (pc := 51) dX12_move_51 sh_82 (by decide) hs (by first | decide | omega) (by decide) ?_
          refine gq_aload_n (pc := 52) dX12_move_52 rfl ?_
          refine gq_getr (pc := 53) dX12_move_53 fl_X12_25_12 sh_76 rfl ?_
          refine gq_iload_n (pc := 56) dX12_move_56 rfl ?_
          refine qm_aldo (pc := 57) dX12_move_57 sh_82 (by decide) ho (by first | decide | omega) (by decide) ?_
          refine gq_ic_eq (pc := 58) 68 dX12_move_58 (by decide) (fun h_58 => ?_) (fun h_58 => ?_)
          · refine gq_iload (pc := 68) dX12_move_68 rfl ?_
            refine gq_if_lt (pc := 70) 109 dX12_move_70 (by decide) (fun h_70 => ?_) (fun h_70 => ?_)
            · exact absurd h_70 (by rw [em]; exact nI_pos (by omega))
            · refine gq_iload_n (pc := 73) dX12_move_73 rfl ?_
              refine gq_if_lt (pc := 74) 109 dX12_move_74 (by decide) (fun h_74 => ?_) (fun h_74 => ?_)
              · exact absurd h_74 (by rw [ea]; exact nI_pos (by omega))
              · refine gq_iload (pc := 77) dX12_move_77 rfl ?_
                refine gq_if_lt (pc := 79) 109 dX12_move_79 (by decide) (fun h_79 => ?_) (fun h_79 => ?_)
                · exact absurd h_79 (by rw [eb]; exact nI_pos (by omega))
                · refine gq_iload_n (pc := 82) dX12_move_82 rfl ?_
                  refine gq_aload_n (pc := 83) dX12_move_83 rfl ?_
                  refine gq_getr (pc := 84) dX12_move_84 fl_X12_28_12 sh_76 rfl ?_
                  refine gq_iload_n (pc := 87) dX12_move_87 rfl ?_
                  refine qm_aldo (pc := 88) dX12_move_88 sh_83 (by decide) hs (by first | decide | omega) (by decide) ?_
                  refine gq_iload (pc := 89) dX12_move_89 rfl ?_
                  refine gq_isub (pc := 91) dX12_move_91 ?_
                  refine gq_ic_gt (pc := 92) 109 dX12_move_92 (by decide) (fun h_92 => ?_) (fun h_92 => ?_)
                  · exact absurd h_92 (by rw [hnS, em, pk_sub (by omega), ea]; exact nI_nlt (by omega) (by omega))
                  · refine gq_iload (pc := 95) dX12_move_95 rfl ?_
                    refine gq_aload_n (pc := 97) dX12_move_97 rfl ?_
                    refine gq_getr (pc := 98) dX12_move_98 fl_X12_28_12 sh_76 rfl ?_
                    refine gq_iload_n (pc := 101) dX12_move_101 rfl ?_
                    refine qm_aldo (pc := 102) dX12_move_102 sh_83 (by decide) ho (by first | decide | omega) (by decide) ?_
                    refine gq_iload (pc := 103) dX12_move_103 rfl ?_
                    refine gq_isub (pc := 105) dX12_move_105 ?_
                    refine gq_ic_le (pc := 106) 116 dX12_move_106 (by decide) (fun h_106 => ?_) (fun h_106 => ?_)
                    · refine gq_iconst (pc := 116) dX12_move_116 kc_0 ?_
                      refine gq_istore (pc := 117) (l' := [(6, _), (0, _), (1, _), (2, _), (3, _), (4, _), (5, _)]) dX12_move_117 (by decide) rfl ?_
                      refine gq_sub [0, 1, 2, 3, 4, 5, 6] rfl ?_
                      refine gq_tog ?_ (key1 m 0 (by omega))
                      congr 1
                      funext q
                      by_cases hq : q = 85
                      · subst hq; rw [ge_row_self]; funext k; rw [if_neg (by omega)]
                      · rw [ge_row_ne _ _ hq]
                    · exact absurd (by rw [hnO, em, pk_sub (by omega), eb]; exact (nI_leI (by omega) (by omega)).mpr (by omega)) h_106
          · exact absurd h3 h_58
        · exact absurd h_36 h2
    · exact absurd h_11 (p_in_le (N := 3) ho hO (by decide))
set_option maxHeartbeats 400000 in
theorem c_move_no_0_0 {i j n : Int32} (h : g 67 2 = 0 ∨ g 67 2 = 0) : ge_N X ge_SH YX11_move 2 [.ref (ge_ad X.1 0), .int 0, .int i, .int 0, .int j, .int n] (ge_k g 25 r x hb) (some (.int (-1000000000 - 2))) (ge_k (ge_up g 75 2 (g 75 2 + 1)) 25 r x hb) := by
  refine gq_ofB (l := [(0, .ref (ge_ad X.1 0)), (1, .int 0), (2, .int i), (3, .int 0), (4, .int j), (5, .int n)]) (by decide) (Nat.le_of_ble_eq_true rfl) rfl ?_
  refine gq_iload_n (pc := 0) dX11_move_0 rfl ?_
  refine gq_rS1i (pc := 1) dX11_move_1 cs_X11_232 (c_noSheet _) ⟨by decide, by decide⟩ (Nat.le_of_ble_eq_true rfl) ?_
  refine gq_if_ne (pc := 4) 14 dX11_move_4 (by decide) (fun h_4 => ?_) (fun h_4 => ?_)
  · exact absurd h_4 (by decide)
  · refine gq_iload_n (pc := 7) dX11_move_7 rfl ?_
    refine gq_rS1i (pc := 8) dX11_move_8 cs_X11_232 (c_noSheet _) ⟨by decide, by decide⟩ (Nat.le_of_ble_eq_true rfl) ?_
    refine gq_if_eq (pc := 11) 20 dX11_move_11 (by decide) (fun h_11 => ?_) (fun h_11 => ?_)
    · refine gq_aload_n (pc := 20) dX11_move_20 rfl ?_
      refine gq_getr (pc := 21) dX11_move_21 fl_X11_89_11 sh_0 rfl ?_
      refine gq_iload_n (pc := 24) dX11_move_24 rfl ?_
      refine gq_aald (pc := 25) dX11_move_25 sh_66 rfl kl_0 rfl (by decide) ?_
      refine gq_astore (pc := 26) (l' := [(6, _), (0, _), (1, _), (2, _), (3, _), (4, _), (5, _)]) dX11_move_26 (by decide) rfl ?_
      refine gq_aload_n (pc := 28) dX11_move_28 rfl ?_
      refine gq_getr (pc := 29) dX11_move_29 fl_X11_89_11 sh_0 rfl ?_
      refine gq_iload_n (pc := 32) dX11_move_32 rfl ?_
      refine gq_aald (pc := 33) dX11_move_33 sh_66 rfl kl_0 rfl (by decide) ?_
      refine gq_astore (pc := 34) (l' := [(7, _), (6, _), (0, _), (1, _), (2, _), (3, _), (4, _), (5, _)]) dX11_move_34 (by decide) rfl ?_
      refine gq_aload (pc := 36) dX11_move_36 rfl ?_
      refine kq_geto (pw := 25) (pc := 38) (by decide) dX11_move_38 fl_X11_235_7 sh_67 rfl (by unfold ge_Z; omega) ?_
      refine gq_if_eq (pc := 41) 52 dX11_move_41 (by decide) (fun h_41 => ?_) (fun h_41 => ?_)
      · refine gq_aload_n (pc := 52) dX11_move_52 rfl ?_
        refine gq_iconst (pc := 53) dX11_move_53 kc_2 ?_
        refine gq_rV1i (pc := 54) dX11_move_54 cv_X11_109 sh_0 (c_error kl_2 (by decide)) ⟨by decide, by decide⟩ rfl rfl (Nat.le_of_ble_eq_true rfl) ?_
        exact gq_iret (pc := 57) rfl dX11_move_57 ⟨rfl, rfl⟩
      · refine gq_aload (pc := 44) dX11_move_44 rfl ?_
        refine kq_geto (pw := 25) (pc := 46) (by decide) dX11_move_46 fl_X11_235_7 sh_67 rfl (by unfold ge_Z; omega) ?_
        refine gq_if_ne (pc := 49) 58 dX11_move_49 (by decide) (fun h_49 => ?_) (fun h_49 => ?_)
        · exact (h.elim h_41 h_49).elim
        · refine gq_aload_n (pc := 52) dX11_move_52 rfl ?_
          refine gq_iconst (pc := 53) dX11_move_53 kc_2 ?_
          refine gq_rV1i (pc := 54) dX11_move_54 cv_X11_109 sh_0 (c_error kl_2 (by decide)) ⟨by decide, by decide⟩ rfl rfl (Nat.le_of_ble_eq_true rfl) ?_
          exact gq_iret (pc := 57) rfl dX11_move_57 ⟨rfl, rfl⟩
    · exact absurd (show p_nt (p_in 0 0 3) = 0 by decide) h_11
set_option maxHeartbeats 400000 in
theorem c_move_ki_0_0 {i j n : Int32} (h1 : ¬ g 67 2 = 0) (h2 : ¬ g 67 2 = 0) (h3 : ¬ g 67 2 = g 67 2) : ge_N X ge_SH YX11_move 2 [.ref (ge_ad X.1 0), .int 0, .int i, .int 0, .int j, .int n] (ge_k g 25 r x hb) (some (.int (-1000000000 - 5))) (ge_k (ge_up g 75 5 (g 75 5 + 1)) 25 r x hb) := by
  refine gq_ofB (l := [(0, .ref (ge_ad X.1 0)), (1, .int 0), (2, .int i), (3, .int 0), (4, .int j), (5, .int n)]) (by decide) (Nat.le_of_ble_eq_true rfl) rfl ?_
  refine gq_iload_n (pc := 0) dX11_move_0 rfl ?_
  refine gq_rS1i (pc := 1) dX11_move_1 cs_X11_232 (c_noSheet _) ⟨by decide, by decide⟩ (Nat.le_of_ble_eq_true rfl) ?_
  refine gq_if_ne (pc := 4) 14 dX11_move_4 (by decide) (fun h_4 => ?_) (fun h_4 => ?_)
  · exact absurd h_4 (by decide)
  · refine gq_iload_n (pc := 7) dX11_move_7 rfl ?_
    refine gq_rS1i (pc := 8) dX11_move_8 cs_X11_232 (c_noSheet _) ⟨by decide, by decide⟩ (Nat.le_of_ble_eq_true rfl) ?_
    refine gq_if_eq (pc := 11) 20 dX11_move_11 (by decide) (fun h_11 => ?_) (fun h_11 => ?_)
    · refine gq_aload_n (pc := 20) dX11_move_20 rfl ?_
      refine gq_getr (pc := 21) dX11_move_21 fl_X11_89_11 sh_0 rfl ?_
      refine gq_iload_n (pc := 24) dX11_move_24 rfl ?_
      refine gq_aald (pc := 25) dX11_move_25 sh_66 rfl kl_0 rfl (by decide) ?_
      refine gq_astore (pc := 26) (l' := [(6, _), (0, _), (1, _), (2, _), (3, _), (4, _), (5, _)]) dX11_move_26 (by decide) rfl ?_
      refine gq_aload_n (pc := 28) dX11_move_28 rfl ?_
      refine gq_getr (pc := 29) dX11_move_29 fl_X11_89_11 sh_0 rfl ?_
      refine gq_iload_n (pc := 32) dX11_move_32 rfl ?_
      refine gq_aald (pc := 33) dX11_move_33 sh_66 rfl kl_0 rfl (by decide) ?_
      refine gq_astore (pc := 34) (l' := [(7, _), (6, _), (0, _), (1, _), (2, _), (3, _), (4, _), (5, _)]) dX11_move_34 (by decide) rfl ?_
      refine gq_aload (pc := 36) dX11_move_36 rfl ?_
      refine kq_geto (pw := 25) (pc := 38) (by decide) dX11_move_38 fl_X11_235_7 sh_67 rfl (by unfold ge_Z; omega) ?_
      refine gq_if_eq (pc := 41) 52 dX11_move_41 (by decide) (fun h_41 => ?_) (fun h_41 => ?_)
      · exact absurd h_41 h1
      · refine gq_aload (pc := 44) dX11_move_44 rfl ?_
        refine kq_geto (pw := 25) (pc := 46) (by decide) dX11_move_46 fl_X11_235_7 sh_67 rfl (by unfold ge_Z; omega) ?_
        refine gq_if_ne (pc := 49) 58 dX11_move_49 (by decide) (fun h_49 => ?_) (fun h_49 => ?_)
        · refine gq_aload (pc := 58) dX11_move_58 rfl ?_
          refine kq_geto (pw := 25) (pc := 60) (by decide) dX11_move_60 fl_X11_235_7 sh_67 rfl (by unfold ge_Z; omega) ?_
          refine gq_aload (pc := 63) dX11_move_63 rfl ?_
          refine kq_geto (pw := 25) (pc := 65) (by decide) dX11_move_65 fl_X11_235_7 sh_67 rfl (by unfold ge_Z; omega) ?_
          refine gq_ic_eq (pc := 68) 77 dX11_move_68 (by decide) (fun h_68 => ?_) (fun h_68 => ?_)
          · exact absurd h_68 h3
          · refine gq_aload_n (pc := 71) dX11_move_71 rfl ?_
            refine gq_iconst (pc := 72) dX11_move_72 kc_5 ?_
            refine gq_rV1i (pc := 73) dX11_move_73 cv_X11_109 sh_0 (c_error kl_5 (by decide)) ⟨by decide, by decide⟩ rfl rfl (Nat.le_of_ble_eq_true rfl) ?_
            exact gq_iret (pc := 76) rfl dX11_move_76 ⟨rfl, rfl⟩
        · exact absurd h_49 h2
    · exact absurd (show p_nt (p_in 0 0 3) = 0 by decide) h_11
set_option maxHeartbeats 400000 in
theorem c_move_er2_0_0 {i j n : Int32} (h1 : ¬ g 67 2 = 0) (h2 : ¬ g 67 2 = 0) (h3 : g 67 2 = g 67 2) (h4 : p_hold (g 67 1) i n = 0 ∨ p_hold (g 67 1) j n = 0) : ge_N X ge_SH YX11_move 2 [.ref (ge_ad X.1 0), .int 0, .int i, .int 0, .int j, .int n] (ge_k g 25 r x hb) (some (.int (-1000000000 - 1))) (ge_k (ge_up g 75 1 (g 75 1 + 1)) 25 r x hb) := by
  refine gq_ofB (l := [(0, .ref (ge_ad X.1 0)), (1, .int 0), (2, .int i), (3, .int 0), (4, .int j), (5, .int n)]) (by decide) (Nat.le_of_ble_eq_true rfl) rfl ?_
  refine gq_iload_n (pc := 0) dX11_move_0 rfl ?_
  refine gq_rS1i (pc := 1) dX11_move_1 cs_X11_232 (c_noSheet _) ⟨by decide, by decide⟩ (Nat.le_of_ble_eq_true rfl) ?_
  refine gq_if_ne (pc := 4) 14 dX11_move_4 (by decide) (fun h_4 => ?_) (fun h_4 => ?_)
  · exact absurd h_4 (by decide)
  · refine gq_iload_n (pc := 7) dX11_move_7 rfl ?_
    refine gq_rS1i (pc := 8) dX11_move_8 cs_X11_232 (c_noSheet _) ⟨by decide, by decide⟩ (Nat.le_of_ble_eq_true rfl) ?_
    refine gq_if_eq (pc := 11) 20 dX11_move_11 (by decide) (fun h_11 => ?_) (fun h_11 => ?_)
    · refine gq_aload_n (pc := 20) dX11_move_20 rfl ?_
      refine gq_getr (pc := 21) dX11_move_21 fl_X11_89_11 sh_0 rfl ?_
      refine gq_iload_n (pc := 24) dX11_move_24 rfl ?_
      refine gq_aald (pc := 25) dX11_move_25 sh_66 rfl kl_0 rfl (by decide) ?_
      refine gq_astore (pc := 26) (l' := [(6, _), (0, _), (1, _), (2, _), (3, _), (4, _), (5, _)]) dX11_move_26 (by decide) rfl ?_
      refine gq_aload_n (pc := 28) dX11_move_28 rfl ?_
      refine gq_getr (pc := 29) dX11_move_29 fl_X11_89_11 sh_0 rfl ?_
      refine gq_iload_n (pc := 32) dX11_move_32 rfl ?_
      refine gq_aald (pc := 33) dX11_move_33 sh_66 rfl kl_0 rfl (by decide) ?_
      refine gq_astore (pc := 34) (l' := [(7, _), (6, _), (0, _), (1, _), (2, _), (3, _), (4, _), (5, _)]) dX11_move_34 (by decide) rfl ?_
      refine gq_aload (pc := 36) dX11_move_36 rfl ?_
      refine kq_geto (pw := 25) (pc := 38) (by decide) dX11_move_38 fl_X11_235_7 sh_67 rfl (by unfold ge_Z; omega) ?_
      refine gq_if_eq (pc := 41) 52 dX11_move_41 (by decide) (fun h_41 => ?_) (fun h_41 => ?_)
      · exact absurd h_41 h1
      · refine gq_aload (pc := 44) dX11_move_44 rfl ?_
        refine kq_geto (pw := 25) (pc := 46) (by decide) dX11_move_46 fl_X11_235_7 sh_67 rfl (by unfold ge_Z; omega) ?_
        refine gq_if_ne (pc := 49) 58 dX11_move_49 (by decide) (fun h_49 => ?_) (fun h_49 => ?_)
        · refine gq_aload (pc := 58) dX11_move_58 rfl ?_
          refine kq_geto (pw := 25) (pc := 60) (by decide) dX11_move_60 fl_X11_235_7 sh_67 rfl (by unfold ge_Z; omega) ?_
          refine gq_aload (pc := 63) dX11_move_63 rfl ?_
          refine kq_geto (pw := 25) (pc := 65) (by decide) dX11_move_65 fl_X11_235_7 sh_67 rfl (by unfold ge_Z; omega) ?_
          refine gq_ic_eq (pc := 68) 77 dX11_move_68 (by decide) (fun h_68 => ?_) (fun h_68 => ?_)
          · refine gq_aload (pc := 77) dX11_move_77 rfl ?_
            refine gq_iload_n (pc := 79) dX11_move_79 rfl ?_
            refine gq_iload (pc := 80) dX11_move_80 rfl ?_
            refine gq_rV2i (pc := 82) dX11_move_82 cv_X11_293 sh_67 (r_holds_67 _ _) ⟨by decide, by decide⟩ rfl rfl (Nat.le_of_ble_eq_true rfl) ?_
            refine gq_if_eq (pc := 85) 100 dX11_move_85 (by decide) (fun h_85 => ?_) (fun h_85 => ?_)
            · refine gq_aload_n (pc := 100) dX11_move_100 rfl ?_
              refine gq_iconst (pc := 101) dX11_move_101 kc_1 ?_
              refine gq_rV1i (pc := 102) dX11_move_102 cv_X11_109 sh_0 (c_error kl_1 (by decide)) ⟨by decide, by decide⟩ rfl rfl (Nat.le_of_ble_eq_true rfl) ?_
              exact gq_iret (pc := 105) rfl dX11_move_105 ⟨rfl, rfl⟩
            · refine gq_aload (pc := 88) dX11_move_88 rfl ?_
              refine gq_iload (pc := 90) dX11_move_90 rfl ?_
              refine gq_iload (pc := 92) dX11_move_92 rfl ?_
              refine gq_rV2i (pc := 94) dX11_move_94 cv_X11_293 sh_67 (r_holds_67 _ _) ⟨by decide, by decide⟩ rfl rfl (Nat.le_of_ble_eq_true rfl) ?_
              refine gq_if_ne (pc := 97) 106 dX11_move_97 (by decide) (fun h_97 => ?_) (fun h_97 => ?_)
              · exact (h4.elim h_85 h_97).elim
              · refine gq_aload_n (pc := 100) dX11_move_100 rfl ?_
                refine gq_iconst (pc := 101) dX11_move_101 kc_1 ?_
                refine gq_rV1i (pc := 102) dX11_move_102 cv_X11_109 sh_0 (c_error kl_1 (by decide)) ⟨by decide, by decide⟩ rfl rfl (Nat.le_of_ble_eq_true rfl) ?_
                exact gq_iret (pc := 105) rfl dX11_move_105 ⟨rfl, rfl⟩
          · exact absurd h3 h_68
        · exact absurd h_49 h2
    · exact absurd (show p_nt (p_in 0 0 3) = 0 by decide) h_11
set_option maxHeartbeats 400000 in
theorem c_move_ok_0_0 {i j n : Int32} (h1 : ¬ g 67 2 = 0) (h2 : ¬ g 67 2 = 0) (h3 : g 67 2 = g 67 2) (h4 : ¬ p_hold (g 67 1) i n = 0) (h5 : ¬ p_hold (g 67 1) j n = 0) {a b m : Nat} (ea : i = nI a) (eb : j = nI b) (em : n = nI m) (q1 : a + m ≤ 40) (q2 : b + m ≤ 40) : ge_N X ge_SH YX11_move 2 [.ref (ge_ad X.1 0), .int 0, .int i, .int 0, .int j, .int n] (ge_k g 25 r x hb) (some (.int n)) (ge_k (ge_row g 68 (va_cpy (g 68) (g 68) a b m)) 25 r x hb) := by
  refine gq_ofB (l := [(0, .ref (ge_ad X.1 0)), (1, .int 0), (2, .int i), (3, .int 0), (4, .int j), (5, .int n)]) (by decide) (Nat.le_of_ble_eq_true rfl) rfl ?_
  refine gq_iload_n (pc := 0) dX11_move_0 rfl ?_
  refine gq_rS1i (pc := 1) dX11_move_1 cs_X11_232 (c_noSheet _) ⟨by decide, by decide⟩ (Nat.le_of_ble_eq_true rfl) ?_
  refine gq_if_ne (pc := 4) 14 dX11_move_4 (by decide) (fun h_4 => ?_) (fun h_4 => ?_)
  · exact absurd h_4 (by decide)
  · refine gq_iload_n (pc := 7) dX11_move_7 rfl ?_
    refine gq_rS1i (pc := 8) dX11_move_8 cs_X11_232 (c_noSheet _) ⟨by decide, by decide⟩ (Nat.le_of_ble_eq_true rfl) ?_
    refine gq_if_eq (pc := 11) 20 dX11_move_11 (by decide) (fun h_11 => ?_) (fun h_11 => ?_)
    · refine gq_aload_n (pc := 20) dX11_move_20 rfl ?_
      refine gq_getr (pc := 21) dX11_move_21 fl_X11_89_11 sh_0 rfl ?_
      refine gq_iload_n (pc := 24) dX11_move_24 rfl ?_
      refine gq_aald (pc := 25) dX11_move_25 sh_66 rfl kl_0 rfl (by decide) ?_
      refine gq_astore (pc := 26) (l' := [(6, _), (0, _), (1, _), (2, _), (3, _), (4, _), (5, _)]) dX11_move_26 (by decide) rfl ?_
      refine gq_aload_n (pc := 28) dX11_move_28 rfl ?_
      refine gq_getr (pc := 29) dX11_move_29 fl_X11_89_11 sh_0 rfl ?_
      refine gq_iload_n (pc := 32) dX11_move_32 rfl ?_
      refine gq_aald (pc := 33) dX11_move_33 sh_66 rfl kl_0 rfl (by decide) ?_
      refine gq_astore (pc := 34) (l' := [(7, _), (6, _), (0, _), (1, _), (2, _), (3, _), (4, _), (5, _)]) dX11_move_34 (by decide) rfl ?_
      refine gq_aload (pc := 36) dX11_move_36 rfl ?_
      refine kq_geto (pw := 25) (pc := 38) (by decide) dX11_move_38 fl_X11_235_7 sh_67 rfl (by unfold ge_Z; omega) ?_
      refine gq_if_eq (pc := 41) 52 dX11_move_41 (by decide) (fun h_41 => ?_) (fun h_41 => ?_)
      · exact absurd h_41 h1
      · refine gq_aload (pc := 44) dX11_move_44 rfl ?_
        refine kq_geto (pw := 25) (pc := 46) (by decide) dX11_move_46 fl_X11_235_7 sh_67 rfl (by unfold ge_Z; omega) ?_
        refine gq_if_ne (pc := 49) 58 dX11_move_49 (by decide) (fun h_49 => ?_) (fun h_49 => ?_)
        · refine gq_aload (pc := 58) dX11_move_58 rfl ?_
          refine kq_geto (pw := 25) (pc := 60) (by decide) dX11_move_60 fl_X11_235_7 sh_67 rfl (by unfold ge_Z; omega) ?_
          refine gq_aload (pc := 63) dX11_move_63 rfl ?_
          refine kq_geto (pw := 25) (pc := 65) (by decide) dX11_move_65 fl_X11_235_7 sh_67 rfl (by unfold ge_Z; omega) ?_
          refine gq_ic_eq (pc := 68) 77 dX11_move_68 (by decide) (fun h_68 => ?_) (fun h_68 => ?_)
          · refine gq_aload (pc := 77) dX11_move_77 rfl ?_
            refine gq_iload_n (pc := 79) dX11_move_79 rfl ?_
            refine gq_iload (pc := 80) dX11_move_80 rfl ?_
            refine gq_rV2i (pc := 82) dX11_move_82 cv_X11_293 sh_67 (r_holds_67 _ _) ⟨by decide, by decide⟩ rfl rfl (Nat.le_of_ble_eq_true rfl) ?_
            refine gq_if_eq (pc := 85) 100 dX11_move_85 (by decide) (fun h_85 => ?_) (fun h_85 => ?_)
            · exact absurd h_85 h4
            · refine gq_aload (pc := 88) dX11_move_88 rfl ?_
              refine gq_iload (pc := 90) dX11_move_90 rfl ?_
              refine gq_iload (pc := 92) dX11_move_92 rfl ?_
              refine gq_rV2i (pc := 94) dX11_move_94 cv_X11_293 sh_67 (r_holds_67 _ _) ⟨by decide, by decide⟩ rfl rfl (Nat.le_of_ble_eq_true rfl) ?_
              refine gq_if_ne (pc := 97) 106 dX11_move_97 (by decide) (fun h_97 => ?_) (fun h_97 => ?_)
              · refine gq_aload (pc := 106) dX11_move_106 rfl ?_
                refine gq_getr (pc := 108) dX11_move_108 fl_X11_297_7 sh_67 rfl ?_
                refine gq_iload_n (pc := 111) dX11_move_111 rfl ?_
                refine gq_aload (pc := 112) dX11_move_112 rfl ?_
                refine gq_getr (pc := 114) dX11_move_114 fl_X11_297_7 sh_67 rfl ?_
                refine gq_iload (pc := 117) dX11_move_117 rfl ?_
                refine gq_iload (pc := 119) dX11_move_119 rfl ?_
                refine kq_copy (pw := 25) (pc := 121) (by decide) (by decide) dX11_move_121 cc_X11_306 sh_68 sh_68 ea eb em q1 q2 (by decide) (by decide) (by decide) (Nat.le_of_ble_eq_true rfl) ?_
                refine gq_iload (pc := 124) dX11_move_124 rfl ?_
                exact gq_iret (pc := 126) rfl dX11_move_126 ⟨rfl, rfl⟩
              · exact absurd h_97 h5
          · exact absurd h3 h_68
        · exact absurd h_49 h2
    · exact absurd (show p_nt (p_in 0 0 3) = 0 by decide) h_11
set_option maxHeartbeats 400000 in
theorem c_move_no_0_1 {i j n : Int32} (h : g 67 2 = 0 ∨ g 69 2 = 0) : ge_N X ge_SH YX11_move 2 [.ref (ge_ad X.1 0), .int 0, .int i, .int 1, .int j, .int n] (ge_k g 25 r x hb) (some (.int (-1000000000 - 2))) (ge_k (ge_up g 75 2 (g 75 2 + 1)) 25 r x hb) := by
  refine gq_ofB (l := [(0, .ref (ge_ad X.1 0)), (1, .int 0), (2, .int i), (3, .int 1), (4, .int j), (5, .int n)]) (by decide) (Nat.le_of_ble_eq_true rfl) rfl ?_
  refine gq_iload_n (pc := 0) dX11_move_0 rfl ?_
  refine gq_rS1i (pc := 1) dX11_move_1 cs_X11_232 (c_noSheet _) ⟨by decide, by decide⟩ (Nat.le_of_ble_eq_true rfl) ?_
  refine gq_if_ne (pc := 4) 14 dX11_move_4 (by decide) (fun h_4 => ?_) (fun h_4 => ?_)
  · exact absurd h_4 (by decide)
  · refine gq_iload_n (pc := 7) dX11_move_7 rfl ?_
    refine gq_rS1i (pc := 8) dX11_move_8 cs_X11_232 (c_noSheet _) ⟨by decide, by decide⟩ (Nat.le_of_ble_eq_true rfl) ?_
    refine gq_if_eq (pc := 11) 20 dX11_move_11 (by decide) (fun h_11 => ?_) (fun h_11 => ?_)
    · refine gq_aload_n (pc := 20) dX11_move_20 rfl ?_
      refine gq_getr (pc := 21) dX11_move_21 fl_X11_89_11 sh_0 rfl ?_
      refine gq_iload_n (pc := 24) dX11_move_24 rfl ?_
      refine gq_aald (pc := 25) dX11_move_25 sh_66 rfl kl_0 rfl (by decide) ?_
      refine gq_astore (pc := 26) (l' := [(6, _), (0, _), (1, _), (2, _), (3, _), (4, _), (5, _)]) dX11_move_26 (by decide) rfl ?_
      refine gq_aload_n (pc := 28) dX11_move_28 rfl ?_
      refine gq_getr (pc := 29) dX11_move_29 fl_X11_89_11 sh_0 rfl ?_
      refine gq_iload_n (pc := 32) dX11_move_32 rfl ?_
      refine gq_aald (pc := 33) dX11_move_33 sh_66 rfl kl_1 rfl (by decide) ?_
      refine gq_astore (pc := 34) (l' := [(7, _), (6, _), (0, _), (1, _), (2, _), (3, _), (4, _), (5, _)]) dX11_move_34 (by decide) rfl ?_
      refine gq_aload (pc := 36) dX11_move_36 rfl ?_
      refine kq_geto (pw := 25) (pc := 38) (by decide) dX11_move_38 fl_X11_235_7 sh_67 rfl (by unfold ge_Z; omega) ?_
      refine gq_if_eq (pc := 41) 52 dX11_move_41 (by decide) (fun h_41 => ?_) (fun h_41 => ?_)
      · refine gq_aload_n (pc := 52) dX11_move_52 rfl ?_
        refine gq_iconst (pc := 53) dX11_move_53 kc_2 ?_
        refine gq_rV1i (pc := 54) dX11_move_54 cv_X11_109 sh_0 (c_error kl_2 (by decide)) ⟨by decide, by decide⟩ rfl rfl (Nat.le_of_ble_eq_true rfl) ?_
        exact gq_iret (pc := 57) rfl dX11_move_57 ⟨rfl, rfl⟩
      · refine gq_aload (pc := 44) dX11_move_44 rfl ?_
        refine kq_geto (pw := 25) (pc := 46) (by decide) dX11_move_46 fl_X11_235_7 sh_69 rfl (by unfold ge_Z; omega) ?_
        refine gq_if_ne (pc := 49) 58 dX11_move_49 (by decide) (fun h_49 => ?_) (fun h_49 => ?_)
        · exact (h.elim h_41 h_49).elim
        · refine gq_aload_n (pc := 52) dX11_move_52 rfl ?_
          refine gq_iconst (pc := 53) dX11_move_53 kc_2 ?_
          refine gq_rV1i (pc := 54) dX11_move_54 cv_X11_109 sh_0 (c_error kl_2 (by decide)) ⟨by decide, by decide⟩ rfl rfl (Nat.le_of_ble_eq_true rfl) ?_
          exact gq_iret (pc := 57) rfl dX11_move_57 ⟨rfl, rfl⟩
    · exact absurd (show p_nt (p_in 1 0 3) = 0 by decide) h_11
set_option maxHeartbeats 400000 in
theorem c_move_ki_0_1 {i j n : Int32} (h1 : ¬ g 67 2 = 0) (h2 : ¬ g 69 2 = 0) (h3 : ¬ g 67 2 = g 69 2) : ge_N X ge_SH YX11_move 2 [.ref (ge_ad X.1 0), .int 0, .int i, .int 1, .int j, .int n] (ge_k g 25 r x hb) (some (.int (-1000000000 - 5))) (ge_k (ge_up g 75 5 (g 75 5 + 1)) 25 r x hb) := by
  refine gq_ofB (l := [(0, .ref (ge_ad X.1 0)), (1, .int 0), (2, .int i), (3, .int 1), (4, .int j), (5, .int n)]) (by decide) (Nat.le_of_ble_eq_true rfl) rfl ?_
  refine gq_iload_n (pc := 0) dX11_move_0 rfl ?_
  refine gq_rS1i (pc := 1) dX11_move_1 cs_X11_232 (c_noSheet _) ⟨by decide, by decide⟩ (Nat.le_of_ble_eq_true rfl) ?_
  refine gq_if_ne (pc := 4) 14 dX11_move_4 (by decide) (fun h_4 => ?_) (fun h_4 => ?_)
  · exact absurd h_4 (by decide)
  · refine gq_iload_n (pc := 7) dX11_move_7 rfl ?_
    refine gq_rS1i (pc := 8) dX11_move_8 cs_X11_232 (c_noSheet _) ⟨by decide, by decide⟩ (Nat.le_of_ble_eq_true rfl) ?_
    refine gq_if_eq (pc := 11) 20 dX11_move_11 (by decide) (fun h_11 => ?_) (fun h_11 => ?_)
    · refine gq_aload_n (pc := 20) dX11_move_20 rfl ?_
      refine gq_getr (pc := 21) dX11_move_21 fl_X11_89_11 sh_0 rfl ?_
      refine gq_iload_n (pc := 24) dX11_move_24 rfl ?_
      refine gq_aald (pc := 25) dX11_move_25 sh_66 rfl kl_0 rfl (by decide) ?_
      refine gq_astore (pc := 26) (l' := [(6, _), (0, _), (1, _), (2, _), (3, _), (4, _), (5, _)]) dX11_move_26 (by decide) rfl ?_
      refine gq_aload_n (pc := 28) dX11_move_28 rfl ?_
      refine gq_getr (pc := 29) dX11_move_29 fl_X11_89_11 sh_0 rfl ?_
      refine gq_iload_n (pc := 32) dX11_move_32 rfl ?_
      refine gq_aald (pc := 33) dX11_move_33 sh_66 rfl kl_1 rfl (by decide) ?_
      refine gq_astore (pc := 34) (l' := [(7, _), (6, _), (0, _), (1, _), (2, _), (3, _), (4, _), (5, _)]) dX11_move_34 (by decide) rfl ?_
      refine gq_aload (pc := 36) dX11_move_36 rfl ?_
      refine kq_geto (pw := 25) (pc := 38) (by decide) dX11_move_38 fl_X11_235_7 sh_67 rfl (by unfold ge_Z; omega) ?_
      refine gq_if_eq (pc := 41) 52 dX11_move_41 (by decide) (fun h_41 => ?_) (fun h_41 => ?_)
      · exact absurd h_41 h1
      · refine gq_aload (pc := 44) dX11_move_44 rfl ?_
        refine kq_geto (pw := 25) (pc := 46) (by decide) dX11_move_46 fl_X11_235_7 sh_69 rfl (by unfold ge_Z; omega) ?_
        refine gq_if_ne (pc := 49) 58 dX11_move_49 (by decide) (fun h_49 => ?_) (fun h_49 => ?_)
        · refine gq_aload (pc := 58) dX11_move_58 rfl ?_
          refine kq_geto (pw := 25) (pc := 60) (by decide) dX11_move_60 fl_X11_235_7 sh_67 rfl (by unfold ge_Z; omega) ?_
          refine gq_aload (pc := 63) dX11_move_63 rfl ?_
          refine kq_geto (pw := 25) (pc := 65) (by decide) dX11_move_65 fl_X11_235_7 sh_69 rfl (by unfold ge_Z; omega) ?_
          refine gq_ic_eq (pc := 68) 77 dX11_move_68 (by decide) (fun h_68 => ?_) (fun h_68 => ?_)
          · exact absurd h_68 h3
          · refine gq_aload_n (pc := 71) dX11_move_71 rfl ?_
            refine gq_iconst (pc := 72) dX11_move_72 kc_5 ?_
            refine gq_rV1i (pc := 73) dX11_move_73 cv_X11_109 sh_0 (c_error kl_5 (by decide)) ⟨by decide, by decide⟩ rfl rfl (Nat.le_of_ble_eq_true rfl) ?_
            exact gq_iret (pc := 76) rfl dX11_move_76 ⟨rfl, rfl⟩
        · exact absurd h_49 h2
    · exact absurd (show p_nt (p_in 1 0 3) = 0 by decide) h_11
set_option maxHeartbeats 400000 in
theorem c_move_er2_0_1 {i j n : Int32} (h1 : ¬ g 67 2 = 0) (h2 : ¬ g 69 2 = 0) (h3 : g 67 2 = g 69 2) (h4 : p_hold (g 67 1) i n = 0 ∨ p_hold (g 69 1) j n = 0) : ge_N X ge_SH YX11_move 2 [.ref (ge_ad X.1 0), .int 0, .int i, .int 1, .int j, .int n] (ge_k g 25 r x hb) (some (.int (-1000000000 - 1))) (ge_k (ge_up g 75 1 (g 75 1 + 1)) 25 r x hb) := by
  refine gq_ofB (l := [(0, .ref (ge_ad X.1 0)), (1, .int 0), (2, .int i), (3, .int 1), (4, .int j), (5, .int n)]) (by decide) (Nat.le_of_ble_eq_true rfl) rfl ?_
  refine gq_iload_n (pc := 0) dX11_move_0 rfl ?_
  refine gq_rS1i (pc := 1) dX11_move_1 cs_X11_232 (c_noSheet _) ⟨by decide, by decide⟩ (Nat.le_of_ble_eq_true rfl) ?_
  refine gq_if_ne (pc := 4) 14 dX11_move_4 (by decide) (fun h_4 => ?_) (fun h_4 => ?_)
  · exact absurd h_4 (by decide)
  · refine gq_iload_n (pc := 7) dX11_move_7 rfl ?_
    refine gq_rS1i (pc := 8) dX11_move_8 cs_X11_232 (c_noSheet _) ⟨by decide, by decide⟩ (Nat.le_of_ble_eq_true rfl) ?_
    refine gq_if_eq (pc := 11) 20 dX11_move_11 (by decide) (fun h_11 => ?_) (fun h_11 => ?_)
    · refine gq_aload_n (pc := 20) dX11_move_20 rfl ?_
      refine gq_getr (pc := 21) dX11_move_21 fl_X11_89_11 sh_0 rfl ?_
      refine gq_iload_n (pc := 24) dX11_move_24 rfl ?_
      refine gq_aald (pc := 25) dX11_move_25 sh_66 rfl kl_0 rfl (by decide) ?_
      refine gq_astore (pc := 26) (l' := [(6, _), (0, _), (1, _), (2, _), (3, _), (4, _), (5, _)]) dX11_move_26 (by decide) rfl ?_
      refine gq_aload_n (pc := 28) dX11_move_28 rfl ?_
      refine gq_getr (pc := 29) dX11_move_29 fl_X11_89_11 sh_0 rfl ?_
      refine gq_iload_n (pc := 32) dX11_move_32 rfl ?_
      refine gq_aald (pc := 33) dX11_move_33 sh_66 rfl kl_1 rfl (by decide) ?_
      refine gq_astore (pc := 34) (l' := [(7, _), (6, _), (0, _), (1, _), (2, _), (3, _), (4, _), (5, _)]) dX11_move_34 (by decide) rfl ?_
      refine gq_aload (pc := 36) dX11_move_36 rfl ?_
      refine kq_geto (pw := 25) (pc := 38) (by decide) dX11_move_38 fl_X11_235_7 sh_67 rfl (by unfold ge_Z; omega) ?_
      refine gq_if_eq (pc := 41) 52 dX11_move_41 (by decide) (fun h_41 => ?_) (fun h_41 => ?_)
      · exact absurd h_41 h1
      · refine gq_aload (pc := 44) dX11_move_44 rfl ?_
        refine kq_geto (pw := 25) (pc := 46) (by decide) dX11_move_46 fl_X11_235_7 sh_69 rfl (by unfold ge_Z; omega) ?_
        refine gq_if_ne (pc := 49) 58 dX11_move_49 (by decide) (fun h_49 => ?_) (fun h_49 => ?_)
        · refine gq_aload (pc := 58) dX11_move_58 rfl ?_
          refine kq_geto (pw := 25) (pc := 60) (by decide) dX11_move_60 fl_X11_235_7 sh_67 rfl (by unfold ge_Z; omega) ?_
          refine gq_aload (pc := 63) dX11_move_63 rfl ?_
          refine kq_geto (pw := 25) (pc := 65) (by decide) dX11_move_65 fl_X11_235_7 sh_69 rfl (by unfold ge_Z; omega) ?_
          refine gq_ic_eq (pc := 68) 77 dX11_move_68 (by decide) (fun h_68 => ?_) (fun h_68 => ?_)
          · refine gq_aload (pc := 77) dX11_move_77 rfl ?_
            refine gq_iload_n (pc := 79) dX11_move_79 rfl ?_
            refine gq_iload (pc := 80) dX11_move_80 rfl ?_
            refine gq_rV2i (pc := 82) dX11_move_82 cv_X11_293 sh_67 (r_holds_67 _ _) ⟨by decide, by decide⟩ rfl rfl (Nat.le_of_ble_eq_true rfl) ?_
            refine gq_if_eq (pc := 85) 100 dX11_move_85 (by decide) (fun h_85 => ?_) (fun h_85 => ?_)
            · refine gq_aload_n (pc := 100) dX11_move_100 rfl ?_
              refine gq_iconst (pc := 101) dX11_move_101 kc_1 ?_
              refine gq_rV1i (pc := 102) dX11_move_102 cv_X11_109 sh_0 (c_error kl_1 (by decide)) ⟨by decide, by decide⟩ rfl rfl (Nat.le_of_ble_eq_true rfl) ?_
              exact gq_iret (pc := 105) rfl dX11_move_105 ⟨rfl, rfl⟩
            · refine gq_aload (pc := 88) dX11_move_88 rfl ?_
              refine gq_iload (pc := 90) dX11_move_90 rfl ?_
              refine gq_iload (pc := 92) dX11_move_92 rfl ?_
              refine gq_rV2i (pc := 94) dX11_move_94 cv_X11_293 sh_69 (r_holds_69 _ _) ⟨by decide, by decide⟩ rfl rfl (Nat.le_of_ble_eq_true rfl) ?_
              refine gq_if_ne (pc := 97) 106 dX11_move_97 (by decide) (fun h_97 => ?_) (fun h_97 => ?_)
              · exact (h4.elim h_85 h_97).elim
              · refine gq_aload_n (pc := 100) dX11_move_100 rfl ?_
                refine gq_iconst (pc := 101) dX11_move_101 kc_1 ?_
                refine gq_rV1i (pc := 102) dX11_move_102 cv_X11_109 sh_0 (c_error kl_1 (by decide)) ⟨by decide, by decide⟩ rfl rfl (Nat.le_of_ble_eq_true rfl) ?_
                exact gq_iret (pc := 105) rfl dX11_move_105 ⟨rfl, rfl⟩
          · exact absurd h3 h_68
        · exact absurd h_49 h2
    · exact absurd (show p_nt (p_in 1 0 3) = 0 by decide) h_11
set_option maxHeartbeats 400000 in
theorem c_move_ok_0_1 {i j n : Int32} (h1 : ¬ g 67 2 = 0) (h2 : ¬ g 69 2 = 0) (h3 : g 67 2 = g 69 2) (h4 : ¬ p_hold (g 67 1) i n = 0) (h5 : ¬ p_hold (g 69 1) j n = 0) {a b m : Nat} (ea : i = nI a) (eb : j = nI b) (em : n = nI m) (q1 : a + m ≤ 40) (q2 : b + m ≤ 40) : ge_N X ge_SH YX11_move 2 [.ref (ge_ad X.1 0), .int 0, .int i, .int 1, .int j, .int n] (ge_k g 25 r x hb) (some (.int n)) (ge_k (ge_row g 70 (va_cpy (g 68) (g 70) a b m)) 25 r x hb) := by
  refine gq_ofB (l := [(0, .ref (ge_ad X.1 0)), (1, .int 0), (2, .int i), (3, .int 1), (4, .int j), (5, .int n)]) (by decide) (Nat.le_of_ble_eq_true rfl) rfl ?_
  refine gq_iload_n (pc := 0) dX11_move_0 rfl ?_
  refine gq_rS1i (pc := 1) dX11_move_1 cs_X11_232 (c_noSheet _) ⟨by decide, by decide⟩ (Nat.le_of_ble_eq_true rfl) ?_
  refine gq_if_ne (pc := 4) 14 dX11_move_4 (by decide) (fun h_4 => ?_) (fun h_4 => ?_)
  · exact absurd h_4 (by decide)
  · refine gq_iload_n (pc := 7) dX11_move_7 rfl ?_
    refine gq_rS1i (pc := 8) dX11_move_8 cs_X11_232 (c_noSheet _) ⟨by decide, by decide⟩ (Nat.le_of_ble_eq_true rfl) ?_
    refine gq_if_eq (pc := 11) 20 dX11_move_11 (by decide) (fun h_11 => ?_) (fun h_11 => ?_)
    · refine gq_aload_n (pc := 20) dX11_move_20 rfl ?_
      refine gq_getr (pc := 21) dX11_move_21 fl_X11_89_11 sh_0 rfl ?_
      refine gq_iload_n (pc := 24) dX11_move_24 rfl ?_
      refine gq_aald (pc := 25) dX11_move_25 sh_66 rfl kl_0 rfl (by decide) ?_
      refine gq_astore (pc := 26) (l' := [(6, _), (0, _), (1, _), (2, _), (3, _), (4, _), (5, _)]) dX11_move_26 (by decide) rfl ?_
      refine gq_aload_n (pc := 28) dX11_move_28 rfl ?_
      refine gq_getr (pc := 29) dX11_move_29 fl_X11_89_11 sh_0 rfl ?_
      refine gq_iload_n (pc := 32) dX11_move_32 rfl ?_
      refine gq_aald (pc := 33) dX11_move_33 sh_66 rfl kl_1 rfl (by decide) ?_
      refine gq_astore (pc := 34) (l' := [(7, _), (6, _), (0, _), (1, _), (2, _), (3, _), (4, _), (5, _)]) dX11_move_34 (by decide) rfl ?_
      refine gq_aload (pc := 36) dX11_move_36 rfl ?_
      refine kq_geto (pw := 25) (pc := 38) (by decide) dX11_move_38 fl_X11_235_7 sh_67 rfl (by unfold ge_Z; omega) ?_
      refine gq_if_eq (pc := 41) 52 dX11_move_41 (by decide) (fun h_41 => ?_) (fun h_41 => ?_)
      · exact absurd h_41 h1
      · refine gq_aload (pc := 44) dX11_move_44 rfl ?_
        refine kq_geto (pw := 25) (pc := 46) (by decide) dX11_move_46 fl_X11_235_7 sh_69 rfl (by unfold ge_Z; omega) ?_
        refine gq_if_ne (pc := 49) 58 dX11_move_49 (by decide) (fun h_49 => ?_) (fun h_49 => ?_)
        · refine gq_aload (pc := 58) dX11_move_58 rfl ?_
          refine kq_geto (pw := 25) (pc := 60) (by decide) dX11_move_60 fl_X11_235_7 sh_67 rfl (by unfold ge_Z; omega) ?_
          refine gq_aload (pc := 63) dX11_move_63 rfl ?_
          refine kq_geto (pw := 25) (pc := 65) (by decide) dX11_move_65 fl_X11_235_7 sh_69 rfl (by unfold ge_Z; omega) ?_
          refine gq_ic_eq (pc := 68) 77 dX11_move_68 (by decide) (fun h_68 => ?_) (fun h_68 => ?_)
          · refine gq_aload (pc := 77) dX11_move_77 rfl ?_
            refine gq_iload_n (pc := 79) dX11_move_79 rfl ?_
            refine gq_iload (pc := 80) dX11_move_80 rfl ?_
            refine gq_rV2i (pc := 82) dX11_move_82 cv_X11_293 sh_67 (r_holds_67 _ _) ⟨by decide, by decide⟩ rfl rfl (Nat.le_of_ble_eq_true rfl) ?_
            refine gq_if_eq (pc := 85) 100 dX11_move_85 (by decide) (fun h_85 => ?_) (fun h_85 => ?_)
            · exact absurd h_85 h4
            · refine gq_aload (pc := 88) dX11_move_88 rfl ?_
              refine gq_iload (pc := 90) dX11_move_90 rfl ?_
              refine gq_iload (pc := 92) dX11_move_92 rfl ?_
              refine gq_rV2i (pc := 94) dX11_move_94 cv_X11_293 sh_69 (r_holds_69 _ _) ⟨by decide, by decide⟩ rfl rfl (Nat.le_of_ble_eq_true rfl) ?_
              refine gq_if_ne (pc := 97) 106 dX11_move_97 (by decide) (fun h_97 => ?_) (fun h_97 => ?_)
              · refine gq_aload (pc := 106) dX11_move_106 rfl ?_
                refine gq_getr (pc := 108) dX11_move_108 fl_X11_297_7 sh_67 rfl ?_
                refine gq_iload_n (pc := 111) dX11_move_111 rfl ?_
                refine gq_aload (pc := 112) dX11_move_112 rfl ?_
                refine gq_getr (pc := 114) dX11_move_114 fl_X11_297_7 sh_69 rfl ?_
                refine gq_iload (pc := 117) dX11_move_117 rfl ?_
                refine gq_iload (pc := 119) dX11_move_119 rfl ?_
                refine kq_copy (pw := 25) (pc := 121) (by decide) (by decide) dX11_move_121 cc_X11_306 sh_68 sh_70 ea eb em q1 q2 (by decide) (by decide) (by decide) (Nat.le_of_ble_eq_true rfl) ?_
                refine gq_iload (pc := 124) dX11_move_124 rfl ?_
                exact gq_iret (pc := 126) rfl dX11_move_126 ⟨rfl, rfl⟩
              · exact absurd h_97 h5
          · exact absurd h3 h_68
        · exact absurd h_49 h2
    · exact absurd (show p_nt (p_in 1 0 3) = 0 by decide) h_11
set_option maxHeartbeats 400000 in
theorem c_move_no_0_2 {i j n : Int32} (h : g 67 2 = 0 ∨ g 71 2 = 0) : ge_N X ge_SH YX11_move 2 [.ref (ge_ad X.1 0), .int 0, .int i, .int 2, .int j, .int n] (ge_k g 25 r x hb) (some (.int (-1000000000 - 2))) (ge_k (ge_up g 75 2 (g 75 2 + 1)) 25 r x hb) := by
  refine gq_ofB (l := [(0, .ref (ge_ad X.1 0)), (1, .int 0), (2, .int i), (3, .int 2), (4, .int j), (5, .int n)]) (by decide) (Nat.le_of_ble_eq_true rfl) rfl ?_
  refine gq_iload_n (pc := 0) dX11_move_0 rfl ?_
  refine gq_rS1i (pc := 1) dX11_move_1 cs_X11_232 (c_noSheet _) ⟨by decide, by decide⟩ (Nat.le_of_ble_eq_true rfl) ?_
  refine gq_if_ne (pc := 4) 14 dX11_move_4 (by decide) (fun h_4 => ?_) (fun h_4 => ?_)
  · exact absurd h_4 (by decide)
  · refine gq_iload_n (pc := 7) dX11_move_7 rfl ?_
    refine gq_rS1i (pc := 8) dX11_move_8 cs_X11_232 (c_noSheet _) ⟨by decide, by decide⟩ (Nat.le_of_ble_eq_true rfl) ?_
    refine gq_if_eq (pc := 11) 20 dX11_move_11 (by decide) (fun h_11 => ?_) (fun h_11 => ?_)
    · refine gq_aload_n (pc := 20) dX11_move_20 rfl ?_
      refine gq_getr (pc := 21) dX11_move_21 fl_X11_89_11 sh_0 rfl ?_
      refine gq_iload_n (pc := 24) dX11_move_24 rfl ?_
      refine gq_aald (pc := 25) dX11_move_25 sh_66 rfl kl_0 rfl (by decide) ?_
      refine gq_astore (pc := 26) (l' := [(6, _), (0, _), (1, _), (2, _), (3, _), (4, _), (5, _)]) dX11_move_26 (by decide) rfl ?_
      refine gq_aload_n (pc := 28) dX11_move_28 rfl ?_
      refine gq_getr (pc := 29) dX11_move_29 fl_X11_89_11 sh_0 rfl ?_
      refine gq_iload_n (pc := 32) dX11_move_32 rfl ?_
      refine gq_aald (pc := 33) dX11_move_33 sh_66 rfl kl_2 rfl (by decide) ?_
      refine gq_astore (pc := 34) (l' := [(7, _), (6, _), (0, _), (1, _), (2, _), (3, _), (4, _), (5, _)]) dX11_move_34 (by decide) rfl ?_
      refine gq_aload (pc := 36) dX11_move_36 rfl ?_
      refine kq_geto (pw := 25) (pc := 38) (by decide) dX11_move_38 fl_X11_235_7 sh_67 rfl (by unfold ge_Z; omega) ?_
      refine gq_if_eq (pc := 41) 52 dX11_move_41 (by decide) (fun h_41 => ?_) (fun h_41 => ?_)
      · refine gq_aload_n (pc := 52) dX11_move_52 rfl ?_
        refine gq_iconst (pc := 53) dX11_move_53 kc_2 ?_
        refine gq_rV1i (pc := 54) dX11_move_54 cv_X11_109 sh_0 (c_error kl_2 (by decide)) ⟨by decide, by decide⟩ rfl rfl (Nat.le_of_ble_eq_true rfl) ?_
        exact gq_iret (pc := 57) rfl dX11_move_57 ⟨rfl, rfl⟩
      · refine gq_aload (pc := 44) dX11_move_44 rfl ?_
        refine kq_geto (pw := 25) (pc := 46) (by decide) dX11_move_46 fl_X11_235_7 sh_71 rfl (by unfold ge_Z; omega) ?_
        refine gq_if_ne (pc := 49) 58 dX11_move_49 (by decide) (fun h_49 => ?_) (fun h_49 => ?_)
        · exact (h.elim h_41 h_49).elim
        · refine gq_aload_n (pc := 52) dX11_move_52 rfl ?_
          refine gq_iconst (pc := 53) dX11_move_53 kc_2 ?_
          refine gq_rV1i (pc := 54) dX11_move_54 cv_X11_109 sh_0 (c_error kl_2 (by decide)) ⟨by decide, by decide⟩ rfl rfl (Nat.le_of_ble_eq_true rfl) ?_
          exact gq_iret (pc := 57) rfl dX11_move_57 ⟨rfl, rfl⟩
    · exact absurd (show p_nt (p_in 2 0 3) = 0 by decide) h_11
set_option maxHeartbeats 400000 in
theorem c_move_ki_0_2 {i j n : Int32} (h1 : ¬ g 67 2 = 0) (h2 : ¬ g 71 2 = 0) (h3 : ¬ g 67 2 = g 71 2) : ge_N X ge_SH YX11_move 2 [.ref (ge_ad X.1 0), .int 0, .int i, .int 2, .int j, .int n] (ge_k g 25 r x hb) (some (.int (-1000000000 - 5))) (ge_k (ge_up g 75 5 (g 75 5 + 1)) 25 r x hb) := by
  refine gq_ofB (l := [(0, .ref (ge_ad X.1 0)), (1, .int 0), (2, .int i), (3, .int 2), (4, .int j), (5, .int n)]) (by decide) (Nat.le_of_ble_eq_true rfl) rfl ?_
  refine gq_iload_n (pc := 0) dX11_move_0 rfl ?_
  refine gq_rS1i (pc := 1) dX11_move_1 cs_X11_232 (c_noSheet _) ⟨by decide, by decide⟩ (Nat.le_of_ble_eq_true rfl) ?_
  refine gq_if_ne (pc := 4) 14 dX11_move_4 (by decide) (fun h_4 => ?_) (fun h_4 => ?_)
  · exact absurd h_4 (by decide)
  · refine gq_iload_n (pc := 7) dX11_move_7 rfl ?_
    refine gq_rS1i (pc := 8) dX11_move_8 cs_X11_232 (c_noSheet _) ⟨by decide, by decide⟩ (Nat.le_of_ble_eq_true rfl) ?_
    refine gq_if_eq (pc := 11) 20 dX11_move_11 (by decide) (fun h_11 => ?_) (fun h_11 => ?_)
    · refine gq_aload_n (pc := 20) dX11_move_20 rfl ?_
      refine gq_getr (pc := 21) dX11_move_21 fl_X11_89_11 sh_0 rfl ?_
      refine gq_iload_n (pc := 24) dX11_move_24 rfl ?_
      refine gq_aald (pc := 25) dX11_move_25 sh_66 rfl kl_0 rfl (by decide) ?_
      refine gq_astore (pc := 26) (l' := [(6, _), (0, _), (1, _), (2, _), (3, _), (4, _), (5, _)]) dX11_move_26 (by decide) rfl ?_
      refine gq_aload_n (pc := 28) dX11_move_28 rfl ?_
      refine gq_getr (pc := 29) dX11_move_29 fl_X11_89_11 sh_0 rfl ?_
      refine gq_iload_n (pc := 32) dX11_move_32 rfl ?_
      refine gq_aald (pc := 33) dX11_move_33 sh_66 rfl kl_2 rfl (by decide) ?_
      refine gq_astore (pc := 34) (l' := [(7, _), (6, _), (0, _), (1, _), (2, _), (3, _), (4, _), (5, _)]) dX11_move_34 (by decide) rfl ?_
      refine gq_aload (pc := 36) dX11_move_36 rfl ?_
      refine kq_geto (pw := 25) (pc := 38) (by decide) dX11_move_38 fl_X11_235_7 sh_67 rfl (by unfold ge_Z; omega) ?_
      refine gq_if_eq (pc := 41) 52 dX11_move_41 (by decide) (fun h_41 => ?_) (fun h_41 => ?_)
      · exact absurd h_41 h1
      · refine gq_aload (pc := 44) dX11_move_44 rfl ?_
        refine kq_geto (pw := 25) (pc := 46) (by decide) dX11_move_46 fl_X11_235_7 sh_71 rfl (by unfold ge_Z; omega) ?_
        refine gq_if_ne (pc := 49) 58 dX11_move_49 (by decide) (fun h_49 => ?_) (fun h_49 => ?_)
        · refine gq_aload (pc := 58) dX11_move_58 rfl ?_
          refine kq_geto (pw := 25) (pc := 60) (by decide) dX11_move_60 fl_X11_235_7 sh_67 rfl (by unfold ge_Z; omega) ?_
          refine gq_aload (pc := 63) dX11_move_63 rfl ?_
          refine kq_geto (pw := 25) (pc := 65) (by decide) dX11_move_65 fl_X11_235_7 sh_71 rfl (by unfold ge_Z; omega) ?_
          refine gq_ic_eq (pc := 68) 77 dX11_move_68 (by decide) (fun h_68 => ?_) (fun h_68 => ?_)
          · exact absurd h_68 h3
          · refine gq_aload_n (pc := 71) dX11_move_71 rfl ?_
            refine gq_iconst (pc := 72) dX11_move_72 kc_5 ?_
            refine gq_rV1i (pc := 73) dX11_move_73 cv_X11_109 sh_0 (c_error kl_5 (by decide)) ⟨by decide, by decide⟩ rfl rfl (Nat.le_of_ble_eq_true rfl) ?_
            exact gq_iret (pc := 76) rfl dX11_move_76 ⟨rfl, rfl⟩
        · exact absurd h_49 h2
    · exact absurd (show p_nt (p_in 2 0 3) = 0 by decide) h_11
set_option maxHeartbeats 400000 in
theorem c_move_er2_0_2 {i j n : Int32} (h1 : ¬ g 67 2 = 0) (h2 : ¬ g 71 2 = 0) (h3 : g 67 2 = g 71 2) (h4 : p_hold (g 67 1) i n = 0 ∨ p_hold (g 71 1) j n = 0) : ge_N X ge_SH YX11_move 2 [.ref (ge_ad X.1 0), .int 0, .int i, .int 2, .int j, .int n] (ge_k g 25 r x hb) (some (.int (-1000000000 - 1))) (ge_k (ge_up g 75 1 (g 75 1 + 1)) 25 r x hb) := by
  refine gq_ofB (l := [(0, .ref (ge_ad X.1 0)), (1, .int 0), (2, .int i), (3, .int 2), (4, .int j), (5, .int n)]) (by decide) (Nat.le_of_ble_eq_true rfl) rfl ?_
  refine gq_iload_n (pc := 0) dX11_move_0 rfl ?_
  refine gq_rS1i (pc := 1) dX11_move_1 cs_X11_232 (c_noSheet _) ⟨by decide, by decide⟩ (Nat.le_of_ble_eq_true rfl) ?_
  refine gq_if_ne (pc := 4) 14 dX11_move_4 (by decide) (fun h_4 => ?_) (fun h_4 => ?_)
  · exact absurd h_4 (by decide)
  · refine gq_iload_n (pc := 7) dX11_move_7 rfl ?_
    refine gq_rS1i (pc := 8) dX11_move_8 cs_X11_232 (c_noSheet _) ⟨by decide, by decide⟩ (Nat.le_of_ble_eq_true rfl) ?_
    refine gq_if_eq (pc := 11) 20 dX11_move_11 (by decide) (fun h_11 => ?_) (fun h_11 => ?_)
    · refine gq_aload_n (pc := 20) dX11_move_20 rfl ?_
      refine gq_getr (pc := 21) dX11_move_21 fl_X11_89_11 sh_0 rfl ?_
      refine gq_iload_n (pc := 24) dX11_move_24 rfl ?_
      refine gq_aald (pc := 25) dX11_move_25 sh_66 rfl kl_0 rfl (by decide) ?_
      refine gq_astore (pc := 26) (l' := [(6, _), (0, _), (1, _), (2, _), (3, _), (4, _), (5, _)]) dX11_move_26 (by decide) rfl ?_
      refine gq_aload_n (pc := 28) dX11_move_28 rfl ?_
      refine gq_getr (pc := 29) dX11_move_29 fl_X11_89_11 sh_0 rfl ?_
      refine gq_iload_n (pc := 32) dX11_move_32 rfl ?_
      refine gq_aald (pc := 33) dX11_move_33 sh_66 rfl kl_2 rfl (by decide) ?_
      refine gq_astore (pc := 34) (l' := [(7, _), (6, _), (0, _), (1, _), (2, _), (3, _), (4, _), (5, _)]) dX11_move_34 (by decide) rfl ?_
      refine gq_aload (pc := 36) dX11_move_36 rfl ?_
      refine kq_geto (pw := 25) (pc := 38) (by decide) dX11_move_38 fl_X11_235_7 sh_67 rfl (by unfold ge_Z; omega) ?_
      refine gq_if_eq (pc := 41) 52 dX11_move_41 (by decide) (fun h_41 => ?_) (fun h_41 => ?_)
      · exact absurd h_41 h1
      · refine gq_aload (pc := 44) dX11_move_44 rfl ?_
        refine kq_geto (pw := 25) (pc := 46) (by decide) dX11_move_46 fl_X11_235_7 sh_71 rfl (by unfold ge_Z; omega) ?_
        refine gq_if_ne (pc := 49) 58 dX11_move_49 (by decide) (fun h_49 => ?_) (fun h_49 => ?_)
        · refine gq_aload (pc := 58) dX11_move_58 rfl ?_
          refine kq_geto (pw := 25) (pc := 60) (by decide) dX11_move_60 fl_X11_235_7 sh_67 rfl (by unfold ge_Z; omega) ?_
          refine gq_aload (pc := 63) dX11_move_63 rfl ?_
          refine kq_geto (pw := 25) (pc := 65) (by decide) dX11_move_65 fl_X11_235_7 sh_71 rfl (by unfold ge_Z; omega) ?_
          refine gq_ic_eq (pc := 68) 77 dX11_move_68 (by decide) (fun h_68 => ?_) (fun h_68 => ?_)
          · refine gq_aload (pc := 77) dX11_move_77 rfl ?_
            refine gq_iload_n (pc := 79) dX11_move_79 rfl ?_
            refine gq_iload (pc := 80) dX11_move_80 rfl ?_
            refine gq_rV2i (pc := 82) dX11_move_82 cv_X11_293 sh_67 (r_holds_67 _ _) ⟨by decide, by decide⟩ rfl rfl (Nat.le_of_ble_eq_true rfl) ?_
            refine gq_if_eq (pc := 85) 100 dX11_move_85 (by decide) (fun h_85 => ?_) (fun h_85 => ?_)
            · refine gq_aload_n (pc := 100) dX11_move_100 rfl ?_
              refine gq_iconst (pc := 101) dX11_move_101 kc_1 ?_
              refine gq_rV1i (pc := 102) dX11_move_102 cv_X11_109 sh_0 (c_error kl_1 (by decide)) ⟨by decide, by decide⟩ rfl rfl (Nat.le_of_ble_eq_true rfl) ?_
              exact gq_iret (pc := 105) rfl dX11_move_105 ⟨rfl, rfl⟩
            · refine gq_aload (pc := 88) dX11_move_88 rfl ?_
              refine gq_iload (pc := 90) dX11_move_90 rfl ?_
              refine gq_iload (pc := 92) dX11_move_92 rfl ?_
              refine gq_rV2i (pc := 94) dX11_move_94 cv_X11_293 sh_71 (r_holds_71 _ _) ⟨by decide, by decide⟩ rfl rfl (Nat.le_of_ble_eq_true rfl) ?_
              refine gq_if_ne (pc := 97) 106 dX11_move_97 (by decide) (fun h_97 => ?_) (fun h_97 => ?_)
              · exact (h4.elim h_85 h_97).elim
              · refine gq_aload_n (pc := 100) dX11_move_100 rfl ?_
                refine gq_iconst (pc := 101) dX11_move_101 kc_1 ?_
                refine gq_rV1i (pc := 102) dX11_move_102 cv_X11_109 sh_0 (c_error kl_1 (by decide)) ⟨by decide, by decide⟩ rfl rfl (Nat.le_of_ble_eq_true rfl) ?_
                exact gq_iret (pc := 105) rfl dX11_move_105 ⟨rfl, rfl⟩
          · exact absurd h3 h_68
        · exact absurd h_49 h2
    · exact absurd (show p_nt (p_in 2 0 3) = 0 by decide) h_11
set_option maxHeartbeats 400000 in
theorem c_move_ok_0_2 {i j n : Int32} (h1 : ¬ g 67 2 = 0) (h2 : ¬ g 71 2 = 0) (h3 : g 67 2 = g 71 2) (h4 : ¬ p_hold (g 67 1) i n = 0) (h5 : ¬ p_hold (g 71 1) j n = 0) {a b m : Nat} (ea : i = nI a) (eb : j = nI b) (em : n = nI m) (q1 : a + m ≤ 40) (q2 : b + m ≤ 40) : ge_N X ge_SH YX11_move 2 [.ref (ge_ad X.1 0), .int 0, .int i, .int 2, .int j, .int n] (ge_k g 25 r x hb) (some (.int n)) (ge_k (ge_row g 72 (va_cpy (g 68) (g 72) a b m)) 25 r x hb) := by
  refine gq_ofB (l := [(0, .ref (ge_ad X.1 0)), (1, .int 0), (2, .int i), (3, .int 2), (4, .int j), (5, .int n)]) (by decide) (Nat.le_of_ble_eq_true rfl) rfl ?_
  refine gq_iload_n (pc := 0) dX11_move_0 rfl ?_
  refine gq_rS1i (pc := 1) dX11_move_1 cs_X11_232 (c_noSheet _) ⟨by decide, by decide⟩ (Nat.le_of_ble_eq_true rfl) ?_
  refine gq_if_ne (pc := 4) 14 dX11_move_4 (by decide) (fun h_4 => ?_) (fun h_4 => ?_)
  · exact absurd h_4 (by decide)
  · refine gq_iload_n (pc := 7) dX11_move_7 rfl ?_
    refine gq_rS1i (pc := 8) dX11_move_8 cs_X11_232 (c_noSheet _) ⟨by decide, by decide⟩ (Nat.le_of_ble_eq_true rfl) ?_
    refine gq_if_eq (pc := 11) 20 dX11_move_11 (by decide) (fun h_11 => ?_) (fun h_11 => ?_)
    · refine gq_aload_n (pc := 20) dX11_move_20 rfl ?_
      refine gq_getr (pc := 21) dX11_move_21 fl_X11_89_11 sh_0 rfl ?_
      refine gq_iload_n (pc := 24) dX11_move_24 rfl ?_
      refine gq_aald (pc := 25) dX11_move_25 sh_66 rfl kl_0 rfl (by decide) ?_
      refine gq_astore (pc := 26) (l' := [(6, _), (0, _), (1, _), (2, _), (3, _), (4, _), (5, _)]) dX11_move_26 (by decide) rfl ?_
      refine gq_aload_n (pc := 28) dX11_move_28 rfl ?_
      refine gq_getr (pc := 29) dX11_move_29 fl_X11_89_11 sh_0 rfl ?_
      refine gq_iload_n (pc := 32) dX11_move_32 rfl ?_
      refine gq_aald (pc := 33) dX11_move_33 sh_66 rfl kl_2 rfl (by decide) ?_
      refine gq_astore (pc := 34) (l' := [(7, _), (6, _), (0, _), (1, _), (2, _), (3, _), (4, _), (5, _)]) dX11_move_34 (by decide) rfl ?_
      refine gq_aload (pc := 36) dX11_move_36 rfl ?_
      refine kq_geto (pw := 25) (pc := 38) (by decide) dX11_move_38 fl_X11_235_7 sh_67 rfl (by unfold ge_Z; omega) ?_
      refine gq_if_eq (pc := 41) 52 dX11_move_41 (by decide) (fun h_41 => ?_) (fun h_41 => ?_)
      · exact absurd h_41 h1
      · refine gq_aload (pc := 44) dX11_move_44 rfl ?_
        refine kq_geto (pw := 25) (pc := 46) (by decide) dX11_move_46 fl_X11_235_7 sh_71 rfl (by unfold ge_Z; omega) ?_
        refine gq_if_ne (pc := 49) 58 dX11_move_49 (by decide) (fun h_49 => ?_) (fun h_49 => ?_)
        · refine gq_aload (pc := 58) dX11_move_58 rfl ?_
          refine kq_geto (pw := 25) (pc := 60) (by decide) dX11_move_60 fl_X11_235_7 sh_67 rfl (by unfold ge_Z; omega) ?_
          refine gq_aload (pc := 63) dX11_move_63 rfl ?_
          refine kq_geto (pw := 25) (pc := 65) (by decide) dX11_move_65 fl_X11_235_7 sh_71 rfl (by unfold ge_Z; omega) ?_
          refine gq_ic_eq (pc := 68) 77 dX11_move_68 (by decide) (fun h_68 => ?_) (fun h_68 => ?_)
          · refine gq_aload (pc := 77) dX11_move_77 rfl ?_
            refine gq_iload_n (pc := 79) dX11_move_79 rfl ?_
            refine gq_iload (pc := 80) dX11_move_80 rfl ?_
            refine gq_rV2i (pc := 82) dX11_move_82 cv_X11_293 sh_67 (r_holds_67 _ _) ⟨by decide, by decide⟩ rfl rfl (Nat.le_of_ble_eq_true rfl) ?_
            refine gq_if_eq (pc := 85) 100 dX11_move_85 (by decide) (fun h_85 => ?_) (fun h_85 => ?_)
            · exact absurd h_85 h4
            · refine gq_aload (pc := 88) dX11_move_88 rfl ?_
              refine gq_iload (pc := 90) dX11_move_90 rfl ?_
              refine gq_iload (pc := 92) dX11_move_92 rfl ?_
              refine gq_rV2i (pc := 94) dX11_move_94 cv_X11_293 sh_71 (r_holds_71 _ _) ⟨by decide, by decide⟩ rfl rfl (Nat.le_of_ble_eq_true rfl) ?_
              refine gq_if_ne (pc := 97) 106 dX11_move_97 (by decide) (fun h_97 => ?_) (fun h_97 => ?_)
              · refine gq_aload (pc := 106) dX11_move_106 rfl ?_
                refine gq_getr (pc := 108) dX11_move_108 fl_X11_297_7 sh_67 rfl ?_
                refine gq_iload_n (pc := 111) dX11_move_111 rfl ?_
                refine gq_aload (pc := 112) dX11_move_112 rfl ?_
                refine gq_getr (pc := 114) dX11_move_114 fl_X11_297_7 sh_71 rfl ?_
                refine gq_iload (pc := 117) dX11_move_117 rfl ?_
                refine gq_iload (pc := 119) dX11_move_119 rfl ?_
                refine kq_copy (pw := 25) (pc := 121) (by decide) (by decide) dX11_move_121 cc_X11_306 sh_68 sh_72 ea eb em q1 q2 (by decide) (by decide) (by decide) (Nat.le_of_ble_eq_true rfl) ?_
                refine gq_iload (pc := 124) dX11_move_124 rfl ?_
                exact gq_iret (pc := 126) rfl dX11_move_126 ⟨rfl, rfl⟩
              · exact absurd h_97 h5
          · exact absurd h3 h_68
        · exact absurd h_49 h2
    · exact absurd (show p_nt (p_in 2 0 3) = 0 by decide) h_11
set_option maxHeartbeats 400000 in
theorem c_move_no_0_3 {i j n : Int32} (h : g 67 2 = 0 ∨ g 73 2 = 0) : ge_N X ge_SH YX11_move 2 [.ref (ge_ad X.1 0), .int 0, .int i, .int 3, .int j, .int n] (ge_k g 25 r x hb) (some (.int (-1000000000 - 2))) (ge_k (ge_up g 75 2 (g 75 2 + 1)) 25 r x hb) := by
  refine gq_ofB (l := [(0, .ref (ge_ad X.1 0)), (1, .int 0), (2, .int i), (3, .int 3), (4, .int j), (5, .int n)]) (by decide) (Nat.le_of_ble_eq_true rfl) rfl ?_
  refine gq_iload_n (pc := 0) dX11_move_0 rfl ?_
  refine gq_rS1i (pc := 1) dX11_move_1 cs_X11_232 (c_noSheet _) ⟨by decide, by decide⟩ (Nat.le_of_ble_eq_true rfl) ?_
  refine gq_if_ne (pc := 4) 14 dX11_move_4 (by decide) (fun h_4 => ?_) (fun h_4 => ?_)
  · exact absurd h_4 (by decide)
  · refine gq_iload_n (pc := 7) dX11_move_7 rfl ?_
    refine gq_rS1i (pc := 8) dX11_move_8 cs_X11_232 (c_noSheet _) ⟨by decide, by decide⟩ (Nat.le_of_ble_eq_true rfl) ?_
    refine gq_if_eq (pc := 11) 20 dX11_move_11 (by decide) (fun h_11 => ?_) (fun h_11 => ?_)
    · refine gq_aload_n (pc := 20) dX11_move_20 rfl ?_
      refine gq_getr (pc := 21) dX11_move_21 fl_X11_89_11 sh_0 rfl ?_
      refine gq_iload_n (pc := 24) dX11_move_24 rfl ?_
      refine gq_aald (pc := 25) dX11_move_25 sh_66 rfl kl_0 rfl (by decide) ?_
      refine gq_astore (pc := 26) (l' := [(6, _), (0, _), (1, _), (2, _), (3, _), (4, _), (5, _)]) dX11_move_26 (by decide) rfl ?_
      refine gq_aload_n (pc := 28) dX11_move_28 rfl ?_
      refine gq_getr (pc := 29) dX11_move_29 fl_X11_89_11 sh_0 rfl ?_
      refine gq_iload_n (pc := 32) dX11_move_32 rfl ?_
      refine gq_aald (pc := 33) dX11_move_33 sh_66 rfl kl_3 rfl (by decide) ?_
      refine gq_astore (pc := 34) (l' := [(7, _), (6, _), (0, _), (1, _), (2, _), (3, _), (4, _), (5, _)]) dX11_move_34 (by decide) rfl ?_
      refine gq_aload (pc := 36) dX11_move_36 rfl ?_
      refine kq_geto (pw := 25) (pc := 38) (by decide) dX11_move_38 fl_X11_235_7 sh_67 rfl (by unfold ge_Z; omega) ?_
      refine gq_if_eq (pc := 41) 52 dX11_move_41 (by decide) (fun h_41 => ?_) (fun h_41 => ?_)
      · refine gq_aload_n (pc := 52) dX11_move_52 rfl ?_
        refine gq_iconst (pc := 53) dX11_move_53 kc_2 ?_
        refine gq_rV1i (pc := 54) dX11_move_54 cv_X11_109 sh_0 (c_error kl_2 (by decide)) ⟨by decide, by decide⟩ rfl rfl (Nat.le_of_ble_eq_true rfl) ?_
        exact gq_iret (pc := 57) rfl dX11_move_57 ⟨rfl, rfl⟩
      · refine gq_aload (pc := 44) dX11_move_44 rfl ?_
        refine kq_geto (pw := 25) (pc := 46) (by decide) dX11_move_46 fl_X11_235_7 sh_73 rfl (by unfold ge_Z; omega) ?_
        refine gq_if_ne (pc := 49) 58 dX11_move_49 (by decide) (fun h_49 => ?_) (fun h_49 => ?_)
        · exact (h.elim h_41 h_49).elim
        · refine gq_aload_n (pc := 52) dX11_move_52 rfl ?_
          refine gq_iconst (pc := 53) dX11_move_53 kc_2 ?_
          refine gq_rV1i (pc := 54) dX11_move_54 cv_X11_109 sh_0 (c_error kl_2 (by decide)) ⟨by decide, by decide⟩ rfl rfl (Nat.le_of_ble_eq_true rfl) ?_
          exact gq_iret (pc := 57) rfl dX11_move_57 ⟨rfl, rfl⟩
    · exact absurd (show p_nt (p_in 3 0 3) = 0 by decide) h_11
set_option maxHeartbeats 400000 in
theorem c_move_ki_0_3 {i j n : Int32} (h1 : ¬ g 67 2 = 0) (h2 : ¬ g 73 2 = 0) (h3 : ¬ g 67 2 = g 73 2) : ge_N X ge_SH YX11_move 2 [.ref (ge_ad X.1 0), .int 0, .int i, .int 3, .int j, .int n] (ge_k g 25 r x hb) (some (.int (-1000000000 - 5))) (ge_k (ge_up g 75 5 (g 75 5 + 1)) 25 r x hb) := by
  refine gq_ofB (l := [(0, .ref (ge_ad X.1 0)), (1, .int 0), (2, .int i), (3, .int 3), (4, .int j), (5, .int n)]) (by decide) (Nat.le_of_ble_eq_true rfl) rfl ?_
  refine gq_iload_n (pc := 0) dX11_move_0 rfl ?_
  refine gq_rS1i (pc := 1) dX11_move_1 cs_X11_232 (c_noSheet _) ⟨by decide, by decide⟩ (Nat.le_of_ble_eq_true rfl) ?_
  refine gq_if_ne (pc := 4) 14 dX11_move_4 (by decide) (fun h_4 => ?_) (fun h_4 => ?_)
  · exact absurd h_4 (by decide)
  · refine gq_iload_n (pc := 7) dX11_move_7 rfl ?_
    refine gq_rS1i (pc := 8) dX11_move_8 cs_X11_232 (c_noSheet _) ⟨by decide, by decide⟩ (Nat.le_of_ble_eq_true rfl) ?_
    refine gq_if_eq (pc := 11) 20 dX11_move_11 (by decide) (fun h_11 => ?_) (fun h_11 => ?_)
    · refine gq_aload_n (pc := 20) dX11_move_20 rfl ?_
      refine gq_getr (pc := 21) dX11_move_21 fl_X11_89_11 sh_0 rfl ?_
      refine gq_iload_n (pc := 24) dX11_move_24 rfl ?_
      refine gq_aald (pc := 25) dX11_move_25 sh_66 rfl kl_0 rfl (by decide) ?_
      refine gq_astore (pc := 26) (l' := [(6, _), (0, _), (1, _), (2, _), (3, _), (4, _), (5, _)]) dX11_move_26 (by decide) rfl ?_
      refine gq_aload_n (pc := 28) dX11_move_28 rfl ?_
      refine gq_getr (pc := 29) dX11_move_29 fl_X11_89_11 sh_0 rfl ?_
      refine gq_iload_n (pc := 32) dX11_move_32 rfl ?_
      refine gq_aald (pc := 33) dX11_move_33 sh_66 rfl kl_3 rfl (by decide) ?_
      refine gq_astore (pc := 34) (l' := [(7, _), (6, _), (0, _), (1, _), (2, _), (3, _), (4, _), (5, _)]) dX11_move_34 (by decide) rfl ?_
      refine gq_aload (pc := 36) dX11_move_36 rfl ?_
      refine kq_geto (pw := 25) (pc := 38) (by decide) dX11_move_38 fl_X11_235_7 sh_67 rfl (by unfold ge_Z; omega) ?_
      refine gq_if_eq (pc := 41) 52 dX11_move_41 (by decide) (fun h_41 => ?_) (fun h_41 => ?_)
      · exact absurd h_41 h1
      · refine gq_aload (pc := 44) dX11_move_44 rfl ?_
        refine kq_geto (pw := 25) (pc := 46) (by decide) dX11_move_46 fl_X11_235_7 sh_73 rfl (by unfold ge_Z; omega) ?_
        refine gq_if_ne (pc := 49) 58 dX11_move_49 (by decide) (fun h_49 => ?_) (fun h_49 => ?_)
        · refine gq_aload (pc := 58) dX11_move_58 rfl ?_
          refine kq_geto (pw := 25) (pc := 60) (by decide) dX11_move_60 fl_X11_235_7 sh_67 rfl (by unfold ge_Z; omega) ?_
          refine gq_aload (pc := 63) dX11_move_63 rfl ?_
          refine kq_geto (pw := 25) (pc := 65) (by decide) dX11_move_65 fl_X11_235_7 sh_73 rfl (by unfold ge_Z; omega) ?_
          refine gq_ic_eq (pc := 68) 77 dX11_move_68 (by decide) (fun h_68 => ?_) (fun h_68 => ?_)
          · exact absurd h_68 h3
          · refine gq_aload_n (pc := 71) dX11_move_71 rfl ?_
            refine gq_iconst (pc := 72) dX11_move_72 kc_5 ?_
            refine gq_rV1i (pc := 73) dX11_move_73 cv_X11_109 sh_0 (c_error kl_5 (by decide)) ⟨by decide, by decide⟩ rfl rfl (Nat.le_of_ble_eq_true rfl) ?_
            exact gq_iret (pc := 76) rfl dX11_move_76 ⟨rfl, rfl⟩
        · exact absurd h_49 h2
    · exact absurd (show p_nt (p_in 3 0 3) = 0 by decide) h_11
set_option maxHeartbeats 400000 in
theorem c_move_er2_0_3 {i j n : Int32} (h1 : ¬ g 67 2 = 0) (h2 : ¬ g 73 2 = 0) (h3 : g 67 2 = g 73 2) (h4 : p_hold (g 67 1) i n = 0 ∨ p_hold (g 73 1) j n = 0) : ge_N X ge_SH YX11_move 2 [.ref (ge_ad X.1 0), .int 0, .int i, .int 3, .int j, .int n] (ge_k g 25 r x hb) (some (.int (-1000000000 - 1))) (ge_k (ge_up g 75 1 (g 75 1 + 1)) 25 r x hb) := by
  refine gq_ofB (l := [(0, .ref (ge_ad X.1 0)), (1, .int 0), (2, .int i), (3, .int 3), (4, .int j), (5, .int n)]) (by decide) (Nat.le_of_ble_eq_true rfl) rfl ?_
  refine gq_iload_n (pc := 0) dX11_move_0 rfl ?_
  refine gq_rS1i (pc := 1) dX11_move_1 cs_X11_232 (c_noSheet _) ⟨by decide, by decide⟩ (Nat.le_of_ble_eq_true rfl) ?_
  refine gq_if_ne (pc := 4) 14 dX11_move_4 (by decide) (fun h_4 => ?_) (fun h_4 => ?_)
  · exact absurd h_4 (by decide)
  · refine gq_iload_n (pc := 7) dX11_move_7 rfl ?_
    refine gq_rS1i (pc := 8) dX11_move_8 cs_X11_232 (c_noSheet _) ⟨by decide, by decide⟩ (Nat.le_of_ble_eq_true rfl) ?_
    refine gq_if_eq (pc := 11) 20 dX11_move_11 (by decide) (fun h_11 => ?_) (fun h_11 => ?_)
    · refine gq_aload_n (pc := 20) dX11_move_20 rfl ?_
      refine gq_getr (pc := 21) dX11_move_21 fl_X11_89_11 sh_0 rfl ?_
      refine gq_iload_n (pc := 24) dX11_move_24 rfl ?_
      refine gq_aald (pc := 25) dX11_move_25 sh_66 rfl kl_0 rfl (by decide) ?_
      refine gq_astore (pc := 26) (l' := [(6, _), (0, _), (1, _), (2, _), (3, _), (4, _), (5, _)]) dX11_move_26 (by decide) rfl ?_
      refine gq_aload_n (pc := 28) dX11_move_28 rfl ?_
      refine gq_getr (pc := 29) dX11_move_29 fl_X11_89_11 sh_0 rfl ?_
      refine gq_iload_n (pc := 32) dX11_move_32 rfl ?_
      refine gq_aald (pc := 33) dX11_move_33 sh_66 rfl kl_3 rfl (by decide) ?_
      refine gq_astore (pc := 34) (l' := [(7, _), (6, _), (0, _), (1, _), (2, _), (3, _), (4, _), (5, _)]) dX11_move_34 (by decide) rfl ?_
      refine gq_aload (pc := 36) dX11_move_36 rfl ?_
      refine kq_geto (pw := 25) (pc := 38) (by decide) dX11_move_38 fl_X11_235_7 sh_67 rfl (by unfold ge_Z; omega) ?_
      refine gq_if_eq (pc := 41) 52 dX11_move_41 (by decide) (fun h_41 => ?_) (fun h_41 => ?_)
      · exact absurd h_41 h1
      · refine gq_aload (pc := 44) dX11_move_44 rfl ?_
        refine kq_geto (pw := 25) (pc := 46) (by decide) dX11_move_46 fl_X11_235_7 sh_73 rfl (by unfold ge_Z; omega) ?_
        refine gq_if_ne (pc := 49) 58 dX11_move_49 (by decide) (fun h_49 => ?_) (fun h_49 => ?_)
        · refine gq_aload (pc := 58) dX11_move_58 rfl ?_
          refine kq_geto (pw := 25) (pc := 60) (by decide) dX11_move_60 fl_X11_235_7 sh_67 rfl (by unfold ge_Z; omega) ?_
          refine gq_aload (pc := 63) dX11_move_63 rfl ?_
          refine kq_geto (pw := 25) (pc := 65) (by decide) dX11_move_65 fl_X11_235_7 sh_73 rfl (by unfold ge_Z; omega) ?_
          refine gq_ic_eq (pc := 68) 77 dX11_move_68 (by decide) (fun h_68 => ?_) (fun h_68 => ?_)
          · refine gq_aload (pc := 77) dX11_move_77 rfl ?_
            refine gq_iload_n (pc := 79) dX11_move_79 rfl ?_
            refine gq_iload (pc := 80) dX11_move_80 rfl ?_
            refine gq_rV2i (pc := 82) dX11_move_82 cv_X11_293 sh_67 (r_holds_67 _ _) ⟨by decide, by decide⟩ rfl rfl (Nat.le_of_ble_eq_true rfl) ?_
            refine gq_if_eq (pc := 85) 100 dX11_move_85 (by decide) (fun h_85 => ?_) (fun h_85 => ?_)
            · refine gq_aload_n (pc := 100) dX11_move_100 rfl ?_
              refine gq_iconst (pc := 101) dX11_move_101 kc_1 ?_
              refine gq_rV1i (pc := 102) dX11_move_102 cv_X11_109 sh_0 (c_error kl_1 (by decide)) ⟨by decide, by decide⟩ rfl rfl (Nat.le_of_ble_eq_true rfl) ?_
              exact gq_iret (pc := 105) rfl dX11_move_105 ⟨rfl, rfl⟩
            · refine gq_aload (pc := 88) dX11_move_88 rfl ?_
              refine gq_iload (pc := 90) dX11_move_90 rfl ?_
              refine gq_iload (pc := 92) dX11_move_92 rfl ?_
              refine gq_rV2i (pc := 94) dX11_move_94 cv_X11_293 sh_73 (r_holds_73 _ _) ⟨by decide, by decide⟩ rfl rfl (Nat.le_of_ble_eq_true rfl) ?_
              refine gq_if_ne (pc := 97) 106 dX11_move_97 (by decide) (fun h_97 => ?_) (fun h_97 => ?_)
              · exact (h4.elim h_85 h_97).elim
              · refine gq_aload_n (pc := 100) dX11_move_100 rfl ?_
                refine gq_iconst (pc := 101) dX11_move_101 kc_1 ?_
                refine gq_rV1i (pc := 102) dX11_move_102 cv_X11_109 sh_0 (c_error kl_1 (by decide)) ⟨by decide, by decide⟩ rfl rfl (Nat.le_of_ble_eq_true rfl) ?_
                exact gq_iret (pc := 105) rfl dX11_move_105 ⟨rfl, rfl⟩
          · exact absurd h3 h_68
        · exact absurd h_49 h2
    · exact absurd (show p_nt (p_in 3 0 3) = 0 by decide) h_11
set_option maxHeartbeats 400000 in
theorem c_move_ok_0_3 {i j n : Int32} (h1 : ¬ g 67 2 = 0) (h2 : ¬ g 73 2 = 0) (h3 : g 67 2 = g 73 2) (h4 : ¬ p_hold (g 67 1) i n = 0) (h5 : ¬ p_hold (g 73 1) j n = 0) {a b m : Nat} (ea : i = nI a) (eb : j = nI b) (em : n = nI m) (q1 : a + m ≤ 40) (q2 : b + m ≤ 40) : ge_N X ge_SH YX11_move 2 [.ref (ge_ad X.1 0), .int 0, .int i, .int 3, .int j, .int n] (ge_k g 25 r x hb) (some (.int n)) (ge_k (ge_row g 74 (va_cpy (g 68) (g 74) a b m)) 25 r x hb) := by
  refine gq_ofB (l := [(0, .ref (ge_ad X.1 0)), (1, .int 0), (2, .int i), (3, .int 3), (4, .int j), (5, .int n)]) (by decide) (Nat.le_of_ble_eq_true rfl) rfl ?_
  refine gq_iload_n (pc := 0) dX11_move_0 rfl ?_
  refine gq_rS1i (pc := 1) dX11_move_1 cs_X11_232 (c_noSheet _) ⟨by decide, by decide⟩ (Nat.le_of_ble_eq_true rfl) ?_
  refine gq_if_ne (pc := 4) 14 dX11_move_4 (by decide) (fun h_4 => ?_) (fun h_4 => ?_)
  · exact absurd h_4 (by decide)
  · refine gq_iload_n (pc := 7) dX11_move_7 rfl ?_
    refine gq_rS1i (pc := 8) dX11_move_8 cs_X11_232 (c_noSheet _) ⟨by decide, by decide⟩ (Nat.le_of_ble_eq_true rfl) ?_
    refine gq_if_eq (pc := 11) 20 dX11_move_11 (by decide) (fun h_11 => ?_) (fun h_11 => ?_)
    · refine gq_aload_n (pc := 20) dX11_move_20 rfl ?_
      refine gq_getr (pc := 21) dX11_move_21 fl_X11_89_11 sh_0 rfl ?_
      refine gq_iload_n (pc := 24) dX11_move_24 rfl ?_
      refine gq_aald (pc := 25) dX11_move_25 sh_66 rfl kl_0 rfl (by decide) ?_
      refine gq_astore (pc := 26) (l' := [(6, _), (0, _), (1, _), (2, _), (3, _), (4, _), (5, _)]) dX11_move_26 (by decide) rfl ?_
      refine gq_aload_n (pc := 28) dX11_move_28 rfl ?_
      refine gq_getr (pc := 29) dX11_move_29 fl_X11_89_11 sh_0 rfl ?_
      refine gq_iload_n (pc := 32) dX11_move_32 rfl ?_
      refine gq_aald (pc := 33) dX11_move_33 sh_66 rfl kl_3 rfl (by decide) ?_
      refine gq_astore (pc := 34) (l' := [(7, _), (6, _), (0, _), (1, _), (2, _), (3, _), (4, _), (5, _)]) dX11_move_34 (by decide) rfl ?_
      refine gq_aload (pc := 36) dX11_move_36 rfl ?_
      refine kq_geto (pw := 25) (pc := 38) (by decide) dX11_move_38 fl_X11_235_7 sh_67 rfl (by unfold ge_Z; omega) ?_
      refine gq_if_eq (pc := 41) 52 dX11_move_41 (by decide) (fun h_41 => ?_) (fun h_41 => ?_)
      · exact absurd h_41 h1
      · refine gq_aload (pc := 44) dX11_move_44 rfl ?_
        refine kq_geto (pw := 25) (pc := 46) (by decide) dX11_move_46 fl_X11_235_7 sh_73 rfl (by unfold ge_Z; omega) ?_
        refine gq_if_ne (pc := 49) 58 dX11_move_49 (by decide) (fun h_49 => ?_) (fun h_49 => ?_)
        · refine gq_aload (pc := 58) dX11_move_58 rfl ?_
          refine kq_geto (pw := 25) (pc := 60) (by decide) dX11_move_60 fl_X11_235_7 sh_67 rfl (by unfold ge_Z; omega) ?_
          refine gq_aload (pc := 63) dX11_move_63 rfl ?_
          refine kq_geto (pw := 25) (pc := 65) (by decide) dX11_move_65 fl_X11_235_7 sh_73 rfl (by unfold ge_Z; omega) ?_
          refine gq_ic_eq (pc := 68) 77 dX11_move_68 (by decide) (fun h_68 => ?_) (fun h_68 => ?_)
          · refine gq_aload (pc := 77) dX11_move_77 rfl ?_
            refine gq_iload_n (pc := 79) dX11_move_79 rfl ?_
            refine gq_iload (pc := 80) dX11_move_80 rfl ?_
            refine gq_rV2i (pc := 82) dX11_move_82 cv_X11_293 sh_67 (r_holds_67 _ _) ⟨by decide, by decide⟩ rfl rfl (Nat.le_of_ble_eq_true rfl) ?_
            refine gq_if_eq (pc := 85) 100 dX11_move_85 (by decide) (fun h_85 => ?_) (fun h_85 => ?_)
            · exact absurd h_85 h4
            · refine gq_aload (pc := 88) dX11_move_88 rfl ?_
              refine gq_iload (pc := 90) dX11_move_90 rfl ?_
              refine gq_iload (pc := 92) dX11_move_92 rfl ?_
              refine gq_rV2i (pc := 94) dX11_move_94 cv_X11_293 sh_73 (r_holds_73 _ _) ⟨by decide, by decide⟩ rfl rfl (Nat.le_of_ble_eq_true rfl) ?_
              refine gq_if_ne (pc := 97) 106 dX11_move_97 (by decide) (fun h_97 => ?_) (fun h_97 => ?_)
              · refine gq_aload (pc := 106) dX11_move_106 rfl ?_
                refine gq_getr (pc := 108) dX11_move_108 fl_X11_297_7 sh_67 rfl ?_
                refine gq_iload_n (pc := 111) dX11_move_111 rfl ?_
                refine gq_aload (pc := 112) dX11_move_112 rfl ?_
                refine gq_getr (pc := 114) dX11_move_114 fl_X11_297_7 sh_73 rfl ?_
                refine gq_iload (pc := 117) dX11_move_117 rfl ?_
                refine gq_iload (pc := 119) dX11_move_119 rfl ?_
                refine kq_copy (pw := 25) (pc := 121) (by decide) (by decide) dX11_move_121 cc_X11_306 sh_68 sh_74 ea eb em q1 q2 (by decide) (by decide) (by decide) (Nat.le_of_ble_eq_true rfl) ?_
                refine gq_iload (pc := 124) dX11_move_124 rfl ?_
                exact gq_iret (pc := 126) rfl dX11_move_126 ⟨rfl, rfl⟩
              · exact absurd h_97 h5
          · exact absurd h3 h_68
        · exact absurd h_49 h2
    · exact absurd (show p_nt (p_in 3 0 3) = 0 by decide) h_11
set_option maxHeartbeats 400000 in
theorem c_move_no_1_0 {i j n : Int32} (h : g 69 2 = 0 ∨ g 67 2 = 0) : ge_N X ge_SH YX11_move 2 [.ref (ge_ad X.1 0), .int 1, .int i, .int 0, .int j, .int n] (ge_k g 25 r x hb) (some (.int (-1000000000 - 2))) (ge_k (ge_up g 75 2 (g 75 2 + 1)) 25 r x hb) := by
  refine gq_ofB (l := [(0, .ref (ge_ad X.1 0)), (1, .int 1), (2, .int i), (3, .int 0), (4, .int j), (5, .int n)]) (by decide) (Nat.le_of_ble_eq_true rfl) rfl ?_
  refine gq_iload_n (pc := 0) dX11_move_0 rfl ?_
  refine gq_rS1i (pc := 1) dX11_move_1 cs_X11_232 (c_noSheet _) ⟨by decide, by decide⟩ (Nat.le_of_ble_eq_true rfl) ?_
  refine gq_if_ne (pc := 4) 14 dX11_move_4 (by decide) (fun h_4 => ?_) (fun h_4 => ?_)
  · exact absurd h_4 (by decide)
  · refine gq_iload_n (pc := 7) dX11_move_7 rfl ?_
    refine gq_rS1i (pc := 8) dX11_move_8 cs_X11_232 (c_noSheet _) ⟨by decide, by decide⟩ (Nat.le_of_ble_eq_true rfl) ?_
    refine gq_if_eq (pc := 11) 20 dX11_move_11 (by decide) (fun h_11 => ?_) (fun h_11 => ?_)
    · refine gq_aload_n (pc := 20) dX11_move_20 rfl ?_
      refine gq_getr (pc := 21) dX11_move_21 fl_X11_89_11 sh_0 rfl ?_
      refine gq_iload_n (pc := 24) dX11_move_24 rfl ?_
      refine gq_aald (pc := 25) dX11_move_25 sh_66 rfl kl_1 rfl (by decide) ?_
      refine gq_astore (pc := 26) (l' := [(6, _), (0, _), (1, _), (2, _), (3, _), (4, _), (5, _)]) dX11_move_26 (by decide) rfl ?_
      refine gq_aload_n (pc := 28) dX11_move_28 rfl ?_
      refine gq_getr (pc := 29) dX11_move_29 fl_X11_89_11 sh_0 rfl ?_
      refine gq_iload_n (pc := 32) dX11_move_32 rfl ?_
      refine gq_aald (pc := 33) dX11_move_33 sh_66 rfl kl_0 rfl (by decide) ?_
      refine gq_astore (pc := 34) (l' := [(7, _), (6, _), (0, _), (1, _), (2, _), (3, _), (4, _), (5, _)]) dX11_move_34 (by decide) rfl ?_
      refine gq_aload (pc := 36) dX11_move_36 rfl ?_
      refine kq_geto (pw := 25) (pc := 38) (by decide) dX11_move_38 fl_X11_235_7 sh_69 rfl (by unfold ge_Z; omega) ?_
      refine gq_if_eq (pc := 41) 52 dX11_move_41 (by decide) (fun h_41 => ?_) (fun h_41 => ?_)
      · refine gq_aload_n (pc := 52) dX11_move_52 rfl ?_
        refine gq_iconst (pc := 53) dX11_move_53 kc_2 ?_
        refine gq_rV1i (pc := 54) dX11_move_54 cv_X11_109 sh_0 (c_error kl_2 (by decide)) ⟨by decide, by decide⟩ rfl rfl (Nat.le_of_ble_eq_true rfl) ?_
        exact gq_iret (pc := 57) rfl dX11_move_57 ⟨rfl, rfl⟩
      · refine gq_aload (pc := 44) dX11_move_44 rfl ?_
        refine kq_geto (pw := 25) (pc := 46) (by decide) dX11_move_46 fl_X11_235_7 sh_67 rfl (by unfold ge_Z; omega) ?_
        refine gq_if_ne (pc := 49) 58 dX11_move_49 (by decide) (fun h_49 => ?_) (fun h_49 => ?_)
        · exact (h.elim h_41 h_49).elim
        · refine gq_aload_n (pc := 52) dX11_move_52 rfl ?_
          refine gq_iconst (pc := 53) dX11_move_53 kc_2 ?_
          refine gq_rV1i (pc := 54) dX11_move_54 cv_X11_109 sh_0 (c_error kl_2 (by decide)) ⟨by decide, by decide⟩ rfl rfl (Nat.le_of_ble_eq_true rfl) ?_
          exact gq_iret (pc := 57) rfl dX11_move_57 ⟨rfl, rfl⟩
    · exact absurd (show p_nt (p_in 0 0 3) = 0 by decide) h_11
set_option maxHeartbeats 400000 in
theorem c_move_ki_1_0 {i j n : Int32} (h1 : ¬ g 69 2 = 0) (h2 : ¬ g 67 2 = 0) (h3 : ¬ g 69 2 = g 67 2) : ge_N X ge_SH YX11_move 2 [.ref (ge_ad X.1 0), .int 1, .int i, .int 0, .int j, .int n] (ge_k g 25 r x hb) (some (.int (-1000000000 - 5))) (ge_k (ge_up g 75 5 (g 75 5 + 1)) 25 r x hb) := by
  refine gq_ofB (l := [(0, .ref (ge_ad X.1 0)), (1, .int 1), (2, .int i), (3, .int 0), (4, .int j), (5, .int n)]) (by decide) (Nat.le_of_ble_eq_true rfl) rfl ?_
  refine gq_iload_n (pc := 0) dX11_move_0 rfl ?_
  refine gq_rS1i (pc := 1) dX11_move_1 cs_X11_232 (c_noSheet _) ⟨by decide, by decide⟩ (Nat.le_of_ble_eq_true rfl) ?_
  refine gq_if_ne (pc := 4) 14 dX11_move_4 (by decide) (fun h_4 => ?_) (fun h_4 => ?_)
  · exact absurd h_4 (by decide)
  · refine gq_iload_n (pc := 7) dX11_move_7 rfl ?_
    refine gq_rS1i (pc := 8) dX11_move_8 cs_X11_232 (c_noSheet _) ⟨by decide, by decide⟩ (Nat.le_of_ble_eq_true rfl) ?_
    refine gq_if_eq (pc := 11) 20 dX11_move_11 (by decide) (fun h_11 => ?_) (fun h_11 => ?_)
    · refine gq_aload_n (pc := 20) dX11_move_20 rfl ?_
      refine gq_getr (pc := 21) dX11_move_21 fl_X11_89_11 sh_0 rfl ?_
      refine gq_iload_n (pc := 24) dX11_move_24 rfl ?_
      refine gq_aald (pc := 25) dX11_move_25 sh_66 rfl kl_1 rfl (by decide) ?_
      refine gq_astore (pc := 26) (l' := [(6, _), (0, _), (1, _), (2, _), (3, _), (4, _), (5, _)]) dX11_move_26 (by decide) rfl ?_
      refine gq_aload_n (pc := 28) dX11_move_28 rfl ?_
      refine gq_getr (pc := 29) dX11_move_29 fl_X11_89_11 sh_0 rfl ?_
      refine gq_iload_n (pc := 32) dX11_move_32 rfl ?_
      refine gq_aald (pc := 33) dX11_move_33 sh_66 rfl kl_0 rfl (by decide) ?_
      refine gq_astore (pc := 34) (l' := [(7, _), (6, _), (0, _), (1, _), (2, _), (3, _), (4, _), (5, _)]) dX11_move_34 (by decide) rfl ?_
      refine gq_aload (pc := 36) dX11_move_36 rfl ?_
      refine kq_geto (pw := 25) (pc := 38) (by decide) dX11_move_38 fl_X11_235_7 sh_69 rfl (by unfold ge_Z; omega) ?_
      refine gq_if_eq (pc := 41) 52 dX11_move_41 (by decide) (fun h_41 => ?_) (fun h_41 => ?_)
      · exact absurd h_41 h1
      · refine gq_aload (pc := 44) dX11_move_44 rfl ?_
        refine kq_geto (pw := 25) (pc := 46) (by decide) dX11_move_46 fl_X11_235_7 sh_67 rfl (by unfold ge_Z; omega) ?_
        refine gq_if_ne (pc := 49) 58 dX11_move_49 (by decide) (fun h_49 => ?_) (fun h_49 => ?_)
        · refine gq_aload (pc := 58) dX11_move_58 rfl ?_
          refine kq_geto (pw := 25) (pc := 60) (by decide) dX11_move_60 fl_X11_235_7 sh_69 rfl (by unfold ge_Z; omega) ?_
          refine gq_aload (pc := 63) dX11_move_63 rfl ?_
          refine kq_geto (pw := 25) (pc := 65) (by decide) dX11_move_65 fl_X11_235_7 sh_67 rfl (by unfold ge_Z; omega) ?_
          refine gq_ic_eq (pc := 68) 77 dX11_move_68 (by decide) (fun h_68 => ?_) (fun h_68 => ?_)
          · exact absurd h_68 h3
          · refine gq_aload_n (pc := 71) dX11_move_71 rfl ?_
            refine gq_iconst (pc := 72) dX11_move_72 kc_5 ?_
            refine gq_rV1i (pc := 73) dX11_move_73 cv_X11_109 sh_0 (c_error kl_5 (by decide)) ⟨by decide, by decide⟩ rfl rfl (Nat.le_of_ble_eq_true rfl) ?_
            exact gq_iret (pc := 76) rfl dX11_move_76 ⟨rfl, rfl⟩
        · exact absurd h_49 h2
    · exact absurd (show p_nt (p_in 0 0 3) = 0 by decide) h_11
set_option maxHeartbeats 400000 in
theorem c_move_er2_1_0 {i j n : Int32} (h1 : ¬ g 69 2 = 0) (h2 : ¬ g 67 2 = 0) (h3 : g 69 2 = g 67 2) (h4 : p_hold (g 69 1) i n = 0 ∨ p_hold (g 67 1) j n = 0) : ge_N X ge_SH YX11_move 2 [.ref (ge_ad X.1 0), .int 1, .int i, .int 0, .int j, .int n] (ge_k g 25 r x hb) (some (.int (-1000000000 - 1))) (ge_k (ge_up g 75 1 (g 75 1 + 1)) 25 r x hb) := by
  refine gq_ofB (l := [(0, .ref (ge_ad X.1 0)), (1, .int 1), (2, .int i), (3, .int 0), (4, .int j), (5, .int n)]) (by decide) (Nat.le_of_ble_eq_true rfl) rfl ?_
  refine gq_iload_n (pc := 0) dX11_move_0 rfl ?_
  refine gq_rS1i (pc := 1) dX11_move_1 cs_X11_232 (c_noSheet _) ⟨by decide, by decide⟩ (Nat.le_of_ble_eq_true rfl) ?_
  refine gq_if_ne (pc := 4) 14 dX11_move_4 (by decide) (fun h_4 => ?_) (fun h_4 => ?_)
  · exact absurd h_4 (by decide)
  · refine gq_iload_n (pc := 7) dX11_move_7 rfl ?_
    refine gq_rS1i (pc := 8) dX11_move_8 cs_X11_232 (c_noSheet _) ⟨by decide, by decide⟩ (Nat.le_of_ble_eq_true rfl) ?_
    refine gq_if_eq (pc := 11) 20 dX11_move_11 (by decide) (fun h_11 => ?_) (fun h_11 => ?_)
    · refine gq_aload_n (pc := 20) dX11_move_20 rfl ?_
      refine gq_getr (pc := 21) dX11_move_21 fl_X11_89_11 sh_0 rfl ?_
      refine gq_iload_n (pc := 24) dX11_move_24 rfl ?_
      refine gq_aald (pc := 25) dX11_move_25 sh_66 rfl kl_1 rfl (by decide) ?_
      refine gq_astore (pc := 26) (l' := [(6, _), (0, _), (1, _), (2, _), (3, _), (4, _), (5, _)]) dX11_move_26 (by decide) rfl ?_
      refine gq_aload_n (pc := 28) dX11_move_28 rfl ?_
      refine gq_getr (pc := 29) dX11_move_29 fl_X11_89_11 sh_0 rfl ?_
      refine gq_iload_n (pc := 32) dX11_move_32 rfl ?_
      refine gq_aald (pc := 33) dX11_move_33 sh_66 rfl kl_0 rfl (by decide) ?_
      refine gq_astore (pc := 34) (l' := [(7, _), (6, _), (0, _), (1, _), (2, _), (3, _), (4, _), (5, _)]) dX11_move_34 (by decide) rfl ?_
      refine gq_aload (pc := 36) dX11_move_36 rfl ?_
      refine kq_geto (pw := 25) (pc := 38) (by decide) dX11_move_38 fl_X11_235_7 sh_69 rfl (by unfold ge_Z; omega) ?_
      refine gq_if_eq (pc := 41) 52 dX11_move_41 (by decide) (fun h_41 => ?_) (fun h_41 => ?_)
      · exact absurd h_41 h1
      · refine gq_aload (pc := 44) dX11_move_44 rfl ?_
        refine kq_geto (pw := 25) (pc := 46) (by decide) dX11_move_46 fl_X11_235_7 sh_67 rfl (by unfold ge_Z; omega) ?_
        refine gq_if_ne (pc := 49) 58 dX11_move_49 (by decide) (fun h_49 => ?_) (fun h_49 => ?_)
        · refine gq_aload (pc := 58) dX11_move_58 rfl ?_
          refine kq_geto (pw := 25) (pc := 60) (by decide) dX11_move_60 fl_X11_235_7 sh_69 rfl (by unfold ge_Z; omega) ?_
          refine gq_aload (pc := 63) dX11_move_63 rfl ?_
          refine kq_geto (pw := 25) (pc := 65) (by decide) dX11_move_65 fl_X11_235_7 sh_67 rfl (by unfold ge_Z; omega) ?_
          refine gq_ic_eq (pc := 68) 77 dX11_move_68 (by decide) (fun h_68 => ?_) (fun h_68 => ?_)
          · refine gq_aload (pc := 77) dX11_move_77 rfl ?_
            refine gq_iload_n (pc := 79) dX11_move_79 rfl ?_
            refine gq_iload (pc := 80) dX11_move_80 rfl ?_
            refine gq_rV2i (pc := 82) dX11_move_82 cv_X11_293 sh_69 (r_holds_69 _ _) ⟨by decide, by decide⟩ rfl rfl (Nat.le_of_ble_eq_true rfl) ?_
            refine gq_if_eq (pc := 85) 100 dX11_move_85 (by decide) (fun h_85 => ?_) (fun h_85 => ?_)
            · refine gq_aload_n (pc := 100) dX11_move_100 rfl ?_
              refine gq_iconst (pc := 101) dX11_move_101 kc_1 ?_
              refine gq_rV1i (pc := 102) dX11_move_102 cv_X11_109 sh_0 (c_error kl_1 (by decide)) ⟨by decide, by decide⟩ rfl rfl (Nat.le_of_ble_eq_true rfl) ?_
              exact gq_iret (pc := 105) rfl dX11_move_105 ⟨rfl, rfl⟩
            · refine gq_aload (pc := 88) dX11_move_88 rfl ?_
              refine gq_iload (pc := 90) dX11_move_90 rfl ?_
              refine gq_iload (pc := 92) dX11_move_92 rfl ?_
              refine gq_rV2i (pc := 94) dX11_move_94 cv_X11_293 sh_67 (r_holds_67 _ _) ⟨by decide, by decide⟩ rfl rfl (Nat.le_of_ble_eq_true rfl) ?_
              refine gq_if_ne (pc := 97) 106 dX11_move_97 (by decide) (fun h_97 => ?_) (fun h_97 => ?_)
              · exact (h4.elim h_85 h_97).elim
              · refine gq_aload_n (pc := 100) dX11_move_100 rfl ?_
                refine gq_iconst (pc := 101) dX11_move_101 kc_1 ?_
                refine gq_rV1i (pc := 102) dX11_move_102 cv_X11_109 sh_0 (c_error kl_1 (by decide)) ⟨by decide, by decide⟩ rfl rfl (Nat.le_of_ble_eq_true rfl) ?_
                exact gq_iret (pc := 105) rfl dX11_move_105 ⟨rfl, rfl⟩
          · exact absurd h3 h_68
        · exact absurd h_49 h2
    · exact absurd (show p_nt (p_in 0 0 3) = 0 by decide) h_11
set_option maxHeartbeats 400000 in
theorem c_move_ok_1_0 {i j n : Int32} (h1 : ¬ g 69 2 = 0) (h2 : ¬ g 67 2 = 0) (h3 : g 69 2 = g 67 2) (h4 : ¬ p_hold (g 69 1) i n = 0) (h5 : ¬ p_hold (g 67 1) j n = 0) {a b m : Nat} (ea : i = nI a) (eb : j = nI b) (em : n = nI m) (q1 : a + m ≤ 40) (q2 : b + m ≤ 40) : ge_N X ge_SH YX11_move 2 [.ref (ge_ad X.1 0), .int 1, .int i, .int 0, .int j, .int n] (ge_k g 25 r x hb) (some (.int n)) (ge_k (ge_row g 68 (va_cpy (g 70) (g 68) a b m)) 25 r x hb) := by
  refine gq_ofB (l := [(0, .ref (ge_ad X.1 0)), (1, .int 1), (2, .int i), (3, .int 0), (4, .int j), (5, .int n)]) (by decide) (Nat.le_of_ble_eq_true rfl) rfl ?_
  refine gq_iload_n (pc := 0) dX11_move_0 rfl ?_
  refine gq_rS1i (pc := 1) dX11_move_1 cs_X11_232 (c_noSheet _) ⟨by decide, by decide⟩ (Nat.le_of_ble_eq_true rfl) ?_
  refine gq_if_ne (pc := 4) 14 dX11_move_4 (by decide) (fun h_4 => ?_) (fun h_4 => ?_)
  · exact absurd h_4 (by decide)
  · refine gq_iload_n (pc := 7) dX11_move_7 rfl ?_
    refine gq_rS1i (pc := 8) dX11_move_8 cs_X11_232 (c_noSheet _) ⟨by decide, by decide⟩ (Nat.le_of_ble_eq_true rfl) ?_
    refine gq_if_eq (pc := 11) 20 dX11_move_11 (by decide) (fun h_11 => ?_) (fun h_11 => ?_)
    · refine gq_aload_n (pc := 20) dX11_move_20 rfl ?_
      refine gq_getr (pc := 21) dX11_move_21 fl_X11_89_11 sh_0 rfl ?_
      refine gq_iload_n (pc := 24) dX11_move_24 rfl ?_
      refine gq_aald (pc := 25) dX11_move_25 sh_66 rfl kl_1 rfl (by decide) ?_
      refine gq_astore (pc := 26) (l' := [(6, _), (0, _), (1, _), (2, _), (3, _), (4, _), (5, _)]) dX11_move_26 (by decide) rfl ?_
      refine gq_aload_n (pc := 28) dX11_move_28 rfl ?_
      refine gq_getr (pc := 29) dX11_move_29 fl_X11_89_11 sh_0 rfl ?_
      refine gq_iload_n (pc := 32) dX11_move_32 rfl ?_
      refine gq_aald (pc := 33) dX11_move_33 sh_66 rfl kl_0 rfl (by decide) ?_
      refine gq_astore (pc := 34) (l' := [(7, _), (6, _), (0, _), (1, _), (2, _), (3, _), (4, _), (5, _)]) dX11_move_34 (by decide) rfl ?_
      refine gq_aload (pc := 36) dX11_move_36 rfl ?_
      refine kq_geto (pw := 25) (pc := 38) (by decide) dX11_move_38 fl_X11_235_7 sh_69 rfl (by unfold ge_Z; omega) ?_
      refine gq_if_eq (pc := 41) 52 dX11_move_41 (by decide) (fun h_41 => ?_) (fun h_41 => ?_)
      · exact absurd h_41 h1
      · refine gq_aload (pc := 44) dX11_move_44 rfl ?_
        refine kq_geto (pw := 25) (pc := 46) (by decide) dX11_move_46 fl_X11_235_7 sh_67 rfl (by unfold ge_Z; omega) ?_
        refine gq_if_ne (pc := 49) 58 dX11_move_49 (by decide) (fun h_49 => ?_) (fun h_49 => ?_)
        · refine gq_aload (pc := 58) dX11_move_58 rfl ?_
          refine kq_geto (pw := 25) (pc := 60) (by decide) dX11_move_60 fl_X11_235_7 sh_69 rfl (by unfold ge_Z; omega) ?_
          refine gq_aload (pc := 63) dX11_move_63 rfl ?_
          refine kq_geto (pw := 25) (pc := 65) (by decide) dX11_move_65 fl_X11_235_7 sh_67 rfl (by unfold ge_Z; omega) ?_
          refine gq_ic_eq (pc := 68) 77 dX11_move_68 (by decide) (fun h_68 => ?_) (fun h_68 => ?_)
          · refine gq_aload (pc := 77) dX11_move_77 rfl ?_
            refine gq_iload_n (pc := 79) dX11_move_79 rfl ?_
            refine gq_iload (pc := 80) dX11_move_80 rfl ?_
            refine gq_rV2i (pc := 82) dX11_move_82 cv_X11_293 sh_69 (r_holds_69 _ _) ⟨by decide, by decide⟩ rfl rfl (Nat.le_of_ble_eq_true rfl) ?_
            refine gq_if_eq (pc := 85) 100 dX11_move_85 (by decide) (fun h_85 => ?_) (fun h_85 => ?_)
            · exact absurd h_85 h4
            · refine gq_aload (pc := 88) dX11_move_88 rfl ?_
              refine gq_iload (pc := 90) dX11_move_90 rfl ?_
              refine gq_iload (pc := 92) dX11_move_92 rfl ?_
              refine gq_rV2i (pc := 94) dX11_move_94 cv_X11_293 sh_67 (r_holds_67 _ _) ⟨by decide, by decide⟩ rfl rfl (Nat.le_of_ble_eq_true rfl) ?_
              refine gq_if_ne (pc := 97) 106 dX11_move_97 (by decide) (fun h_97 => ?_) (fun h_97 => ?_)
              · refine gq_aload (pc := 106) dX11_move_106 rfl ?_
                refine gq_getr (pc := 108) dX11_move_108 fl_X11_297_7 sh_69 rfl ?_
                refine gq_iload_n (pc := 111) dX11_move_111 rfl ?_
                refine gq_aload (pc := 112) dX11_move_112 rfl ?_
                refine gq_getr (pc := 114) dX11_move_114 fl_X11_297_7 sh_67 rfl ?_
                refine gq_iload (pc := 117) dX11_move_117 rfl ?_
                refine gq_iload (pc := 119) dX11_move_119 rfl ?_
                refine kq_copy (pw := 25) (pc := 121) (by decide) (by decide) dX11_move_121 cc_X11_306 sh_70 sh_68 ea eb em q1 q2 (by decide) (by decide) (by decide) (Nat.le_of_ble_eq_true rfl) ?_
                refine gq_iload (pc := 124) dX11_move_124 rfl ?_
                exact gq_iret (pc := 126) rfl dX11_move_126 ⟨rfl, rfl⟩
              · exact absurd h_97 h5
          · exact absurd h3 h_68
        · exact absurd h_49 h2
    · exact absurd (show p_nt (p_in 0 0 3) = 0 by decide) h_11
set_option maxHeartbeats 400000 in
theorem c_move_no_1_1 {i j n : Int32} (h : g 69 2 = 0 ∨ g 69 2 = 0) : ge_N X ge_SH YX11_move 2 [.ref (ge_ad X.1 0), .int 1, .int i, .int 1, .int j, .int n] (ge_k g 25 r x hb) (some (.int (-1000000000 - 2))) (ge_k (ge_up g 75 2 (g 75 2 + 1)) 25 r x hb) := by
  refine gq_ofB (l := [(0, .ref (ge_ad X.1 0)), (1, .int 1), (2, .int i), (3, .int 1), (4, .int j), (5, .int n)]) (by decide) (Nat.le_of_ble_eq_true rfl) rfl ?_
  refine gq_iload_n (pc := 0) dX11_move_0 rfl ?_
  refine gq_rS1i (pc := 1) dX11_move_1 cs_X11_232 (c_noSheet _) ⟨by decide, by decide⟩ (Nat.le_of_ble_eq_true rfl) ?_
  refine gq_if_ne (pc := 4) 14 dX11_move_4 (by decide) (fun h_4 => ?_) (fun h_4 => ?_)
  · exact absurd h_4 (by decide)
  · refine gq_iload_n (pc := 7) dX11_move_7 rfl ?_
    refine gq_rS1i (pc := 8) dX11_move_8 cs_X11_232 (c_noSheet _) ⟨by decide, by decide⟩ (Nat.le_of_ble_eq_true rfl) ?_
    refine gq_if_eq (pc := 11) 20 dX11_move_11 (by decide) (fun h_11 => ?_) (fun h_11 => ?_)
    · refine gq_aload_n (pc := 20) dX11_move_20 rfl ?_
      refine gq_getr (pc := 21) dX11_move_21 fl_X11_89_11 sh_0 rfl ?_
      refine gq_iload_n (pc := 24) dX11_move_24 rfl ?_
      refine gq_aald (pc := 25) dX11_move_25 sh_66 rfl kl_1 rfl (by decide) ?_
      refine gq_astore (pc := 26) (l' := [(6, _), (0, _), (1, _), (2, _), (3, _), (4, _), (5, _)]) dX11_move_26 (by decide) rfl ?_
      refine gq_aload_n (pc := 28) dX11_move_28 rfl ?_
      refine gq_getr (pc := 29) dX11_move_29 fl_X11_89_11 sh_0 rfl ?_
      refine gq_iload_n (pc := 32) dX11_move_32 rfl ?_
      refine gq_aald (pc := 33) dX11_move_33 sh_66 rfl kl_1 rfl (by decide) ?_
      refine gq_astore (pc := 34) (l' := [(7, _), (6, _), (0, _), (1, _), (2, _), (3, _), (4, _), (5, _)]) dX11_move_34 (by decide) rfl ?_
      refine gq_aload (pc := 36) dX11_move_36 rfl ?_
      refine kq_geto (pw := 25) (pc := 38) (by decide) dX11_move_38 fl_X11_235_7 sh_69 rfl (by unfold ge_Z; omega) ?_
      refine gq_if_eq (pc := 41) 52 dX11_move_41 (by decide) (fun h_41 => ?_) (fun h_41 => ?_)
      · refine gq_aload_n (pc := 52) dX11_move_52 rfl ?_
        refine gq_iconst (pc := 53) dX11_move_53 kc_2 ?_
        refine gq_rV1i (pc := 54) dX11_move_54 cv_X11_109 sh_0 (c_error kl_2 (by decide)) ⟨by decide, by decide⟩ rfl rfl (Nat.le_of_ble_eq_true rfl) ?_
        exact gq_iret (pc := 57) rfl dX11_move_57 ⟨rfl, rfl⟩
      · refine gq_aload (pc := 44) dX11_move_44 rfl ?_
        refine kq_geto (pw := 25) (pc := 46) (by decide) dX11_move_46 fl_X11_235_7 sh_69 rfl (by unfold ge_Z; omega) ?_
        refine gq_if_ne (pc := 49) 58 dX11_move_49 (by decide) (fun h_49 => ?_) (fun h_49 => ?_)
        · exact (h.elim h_41 h_49).elim
        · refine gq_aload_n (pc := 52) dX11_move_52 rfl ?_
          refine gq_iconst (pc := 53) dX11_move_53 kc_2 ?_
          refine gq_rV1i (pc := 54) dX11_move_54 cv_X11_109 sh_0 (c_error kl_2 (by decide)) ⟨by decide, by decide⟩ rfl rfl (Nat.le_of_ble_eq_true rfl) ?_
          exact gq_iret (pc := 57) rfl dX11_move_57 ⟨rfl, rfl⟩
    · exact absurd (show p_nt (p_in 1 0 3) = 0 by decide) h_11
set_option maxHeartbeats 400000 in
theorem c_move_ki_1_1 {i j n : Int32} (h1 : ¬ g 69 2 = 0) (h2 : ¬ g 69 2 = 0) (h3 : ¬ g 69 2 = g 69 2) : ge_N X ge_SH YX11_move 2 [.ref (ge_ad X.1 0), .int 1, .int i, .int 1, .int j, .int n] (ge_k g 25 r x hb) (some (.int (-1000000000 - 5))) (ge_k (ge_up g 75 5 (g 75 5 + 1)) 25 r x hb) := by
  refine gq_ofB (l := [(0, .ref (ge_ad X.1 0)), (1, .int 1), (2, .int i), (3, .int 1), (4, .int j), (5, .int n)]) (by decide) (Nat.le_of_ble_eq_true rfl) rfl ?_
  refine gq_iload_n (pc := 0) dX11_move_0 rfl ?_
  refine gq_rS1i (pc := 1) dX11_move_1 cs_X11_232 (c_noSheet _) ⟨by decide, by decide⟩ (Nat.le_of_ble_eq_true rfl) ?_
  refine gq_if_ne (pc := 4) 14 dX11_move_4 (by decide) (fun h_4 => ?_) (fun h_4 => ?_)
  · exact absurd h_4 (by decide)
  · refine gq_iload_n (pc := 7) dX11_move_7 rfl ?_
    refine gq_rS1i (pc := 8) dX11_move_8 cs_X11_232 (c_noSheet _) ⟨by decide, by decide⟩ (Nat.le_of_ble_eq_true rfl) ?_
    refine gq_if_eq (pc := 11) 20 dX11_move_11 (by decide) (fun h_11 => ?_) (fun h_11 => ?_)
    · refine gq_aload_n (pc := 20) dX11_move_20 rfl ?_
      refine gq_getr (pc := 21) dX11_move_21 fl_X11_89_11 sh_0 rfl ?_
      refine gq_iload_n (pc := 24) dX11_move_24 rfl ?_
      refine gq_aald (pc := 25) dX11_move_25 sh_66 rfl kl_1 rfl (by decide) ?_
      refine gq_astore (pc := 26) (l' := [(6, _), (0, _), (1, _), (2, _), (3, _), (4, _), (5, _)]) dX11_move_26 (by decide) rfl ?_
      refine gq_aload_n (pc := 28) dX11_move_28 rfl ?_
      refine gq_getr (pc := 29) dX11_move_29 fl_X11_89_11 sh_0 rfl ?_
      refine gq_iload_n (pc := 32) dX11_move_32 rfl ?_
      refine gq_aald (pc := 33) dX11_move_33 sh_66 rfl kl_1 rfl (by decide) ?_
      refine gq_astore (pc := 34) (l' := [(7, _), (6, _), (0, _), (1, _), (2, _), (3, _), (4, _), (5, _)]) dX11_move_34 (by decide) rfl ?_
      refine gq_aload (pc := 36) dX11_move_36 rfl ?_
      refine kq_geto (pw := 25) (pc := 38) (by decide) dX11_move_38 fl_X11_235_7 sh_69 rfl (by unfold ge_Z; omega) ?_
      refine gq_if_eq (pc := 41) 52 dX11_move_41 (by decide) (fun h_41 => ?_) (fun h_41 => ?_)
      · exact absurd h_41 h1
      · refine gq_aload (pc := 44) dX11_move_44 rfl ?_
        refine kq_geto (pw := 25) (pc := 46) (by decide) dX11_move_46 fl_X11_235_7 sh_69 rfl (by unfold ge_Z; omega) ?_
        refine gq_if_ne (pc := 49) 58 dX11_move_49 (by decide) (fun h_49 => ?_) (fun h_49 => ?_)
        · refine gq_aload (pc := 58) dX11_move_58 rfl ?_
          refine kq_geto (pw := 25) (pc := 60) (by decide) dX11_move_60 fl_X11_235_7 sh_69 rfl (by unfold ge_Z; omega) ?_
          refine gq_aload (pc := 63) dX11_move_63 rfl ?_
          refine kq_geto (pw := 25) (pc := 65) (by decide) dX11_move_65 fl_X11_235_7 sh_69 rfl (by unfold ge_Z; omega) ?_
          refine gq_ic_eq (pc := 68) 77 dX11_move_68 (by decide) (fun h_68 => ?_) (fun h_68 => ?_)
          · exact absurd h_68 h3
          · refine gq_aload_n (pc := 71) dX11_move_71 rfl ?_
            refine gq_iconst (pc := 72) dX11_move_72 kc_5 ?_
            refine gq_rV1i (pc := 73) dX11_move_73 cv_X11_109 sh_0 (c_error kl_5 (by decide)) ⟨by decide, by decide⟩ rfl rfl (Nat.le_of_ble_eq_true rfl) ?_
            exact gq_iret (pc := 76) rfl dX11_move_76 ⟨rfl, rfl⟩
        · exact absurd h_49 h2
    · exact absurd (show p_nt (p_in 1 0 3) = 0 by decide) h_11
set_option maxHeartbeats 400000 in
theorem c_move_er2_1_1 {i j n : Int32} (h1 : ¬ g 69 2 = 0) (h2 : ¬ g 69 2 = 0) (h3 : g 69 2 = g 69 2) (h4 : p_hold (g 69 1) i n = 0 ∨ p_hold (g 69 1) j n = 0) : ge_N X ge_SH YX11_move 2 [.ref (ge_ad X.1 0), .int 1, .int i, .int 1, .int j, .int n] (ge_k g 25 r x hb) (some (.int (-1000000000 - 1))) (ge_k (ge_up g 75 1 (g 75 1 + 1)) 25 r x hb) := by
  refine gq_ofB (l := [(0, .ref (ge_ad X.1 0)), (1, .int 1), (2, .int i), (3, .int 1), (4, .int j), (5, .int n)]) (by decide) (Nat.le_of_ble_eq_true rfl) rfl ?_
  refine gq_iload_n (pc := 0) dX11_move_0 rfl ?_
  refine gq_rS1i (pc := 1) dX11_move_1 cs_X11_232 (c_noSheet _) ⟨by decide, by decide⟩ (Nat.le_of_ble_eq_true rfl) ?_
  refine gq_if_ne (pc := 4) 14 dX11_move_4 (by decide) (fun h_4 => ?_) (fun h_4 => ?_)
  · exact absurd h_4 (by decide)
  · refine gq_iload_n (pc := 7) dX11_move_7 rfl ?_
    refine gq_rS1i (pc := 8) dX11_move_8 cs_X11_232 (c_noSheet _) ⟨by decide, by decide⟩ (Nat.le_of_ble_eq_true rfl) ?_
    refine gq_if_eq (pc := 11) 20 dX11_move_11 (by decide) (fun h_11 => ?_) (fun h_11 => ?_)
    · refine gq_aload_n (pc := 20) dX11_move_20 rfl ?_
      refine gq_getr (pc := 21) dX11_move_21 fl_X11_89_11 sh_0 rfl ?_
      refine gq_iload_n (pc := 24) dX11_move_24 rfl ?_
      refine gq_aald (pc := 25) dX11_move_25 sh_66 rfl kl_1 rfl (by decide) ?_
      refine gq_astore (pc := 26) (l' := [(6, _), (0, _), (1, _), (2, _), (3, _), (4, _), (5, _)]) dX11_move_26 (by decide) rfl ?_
      refine gq_aload_n (pc := 28) dX11_move_28 rfl ?_
      refine gq_getr (pc := 29) dX11_move_29 fl_X11_89_11 sh_0 rfl ?_
      refine gq_iload_n (pc := 32) dX11_move_32 rfl ?_
      refine gq_aald (pc := 33) dX11_move_33 sh_66 rfl kl_1 rfl (by decide) ?_
      refine gq_astore (pc := 34) (l' := [(7, _), (6, _), (0, _), (1, _), (2, _), (3, _), (4, _), (5, _)]) dX11_move_34 (by decide) rfl ?_
      refine gq_aload (pc := 36) dX11_move_36 rfl ?_
      refine kq_geto (pw := 25) (pc := 38) (by decide) dX11_move_38 fl_X11_235_7 sh_69 rfl (by unfold ge_Z; omega) ?_
      refine gq_if_eq (pc := 41) 52 dX11_move_41 (by decide) (fun h_41 => ?_) (fun h_41 => ?_)
      · exact absurd h_41 h1
      · refine gq_aload (pc := 44) dX11_move_44 rfl ?_
        refine kq_geto (pw := 25) (pc := 46) (by decide) dX11_move_46 fl_X11_235_7 sh_69 rfl (by unfold ge_Z; omega) ?_
        refine gq_if_ne (pc := 49) 58 dX11_move_49 (by decide) (fun h_49 => ?_) (fun h_49 => ?_)
        · refine gq_aload (pc := 58) dX11_move_58 rfl ?_
          refine kq_geto (pw := 25) (pc := 60) (by decide) dX11_move_60 fl_X11_235_7 sh_69 rfl (by unfold ge_Z; omega) ?_
          refine gq_aload (pc := 63) dX11_move_63 rfl ?_
          refine kq_geto (pw := 25) (pc := 65) (by decide) dX11_move_65 fl_X11_235_7 sh_69 rfl (by unfold ge_Z; omega) ?_
          refine gq_ic_eq (pc := 68) 77 dX11_move_68 (by decide) (fun h_68 => ?_) (fun h_68 => ?_)
          · refine gq_aload (pc := 77) dX11_move_77 rfl ?_
            refine gq_iload_n (pc := 79) dX11_move_79 rfl ?_
            refine gq_iload (pc := 80) dX11_move_80 rfl ?_
            refine gq_rV2i (pc := 82) dX11_move_82 cv_X11_293 sh_69 (r_holds_69 _ _) ⟨by decide, by decide⟩ rfl rfl (Nat.le_of_ble_eq_true rfl) ?_
            refine gq_if_eq (pc := 85) 100 dX11_move_85 (by decide) (fun h_85 => ?_) (fun h_85 => ?_)
            · refine gq_aload_n (pc := 100) dX11_move_100 rfl ?_
              refine gq_iconst (pc := 101) dX11_move_101 kc_1 ?_
              refine gq_rV1i (pc := 102) dX11_move_102 cv_X11_109 sh_0 (c_error kl_1 (by decide)) ⟨by decide, by decide⟩ rfl rfl (Nat.le_of_ble_eq_true rfl) ?_
              exact gq_iret (pc := 105) rfl dX11_move_105 ⟨rfl, rfl⟩
            · refine gq_aload (pc := 88) dX11_move_88 rfl ?_
              refine gq_iload (pc := 90) dX11_move_90 rfl ?_
              refine gq_iload (pc := 92) dX11_move_92 rfl ?_
              refine gq_rV2i (pc := 94) dX11_move_94 cv_X11_293 sh_69 (r_holds_69 _ _) ⟨by decide, by decide⟩ rfl rfl (Nat.le_of_ble_eq_true rfl) ?_
              refine gq_if_ne (pc := 97) 106 dX11_move_97 (by decide) (fun h_97 => ?_) (fun h_97 => ?_)
              · exact (h4.elim h_85 h_97).elim
              · refine gq_aload_n (pc := 100) dX11_move_100 rfl ?_
                refine gq_iconst (pc := 101) dX11_move_101 kc_1 ?_
                refine gq_rV1i (pc := 102) dX11_move_102 cv_X11_109 sh_0 (c_error kl_1 (by decide)) ⟨by decide, by decide⟩ rfl rfl (Nat.le_of_ble_eq_true rfl) ?_
                exact gq_iret (pc := 105) rfl dX11_move_105 ⟨rfl, rfl⟩
          · exact absurd h3 h_68
        · exact absurd h_49 h2
    · exact absurd (show p_nt (p_in 1 0 3) = 0 by decide) h_11
set_option maxHeartbeats 400000 in
theorem c_move_ok_1_1 {i j n : Int32} (h1 : ¬ g 69 2 = 0) (h2 : ¬ g 69 2 = 0) (h3 : g 69 2 = g 69 2) (h4 : ¬ p_hold (g 69 1) i n = 0) (h5 : ¬ p_hold (g 69 1) j n = 0) {a b m : Nat} (ea : i = nI a) (eb : j = nI b) (em : n = nI m) (q1 : a + m ≤ 40) (q2 : b + m ≤ 40) : ge_N X ge_SH YX11_move 2 [.ref (ge_ad X.1 0), .int 1, .int i, .int 1, .int j, .int n] (ge_k g 25 r x hb) (some (.int n)) (ge_k (ge_row g 70 (va_cpy (g 70) (g 70) a b m)) 25 r x hb) := by
  refine gq_ofB (l := [(0, .ref (ge_ad X.1 0)), (1, .int 1), (2, .int i), (3, .int 1), (4, .int j), (5, .int n)]) (by decide) (Nat.le_of_ble_eq_true rfl) rfl ?_
  refine gq_iload_n (pc := 0) dX11_move_0 rfl ?_
  refine gq_rS1i (pc := 1) dX11_move_1 cs_X11_232 (c_noSheet _) ⟨by decide, by decide⟩ (Nat.le_of_ble_eq_true rfl) ?_
  refine gq_if_ne (pc := 4) 14 dX11_move_4 (by decide) (fun h_4 => ?_) (fun h_4 => ?_)
  · exact absurd h_4 (by decide)
  · refine gq_iload_n (pc := 7) dX11_move_7 rfl ?_
    refine gq_rS1i (pc := 8) dX11_move_8 cs_X11_232 (c_noSheet _) ⟨by decide, by decide⟩ (Nat.le_of_ble_eq_true rfl) ?_
    refine gq_if_eq (pc := 11) 20 dX11_move_11 (by decide) (fun h_11 => ?_) (fun h_11 => ?_)
    · refine gq_aload_n (pc := 20) dX11_move_20 rfl ?_
      refine gq_getr (pc := 21) dX11_move_21 fl_X11_89_11 sh_0 rfl ?_
      refine gq_iload_n (pc := 24) dX11_move_24 rfl ?_
      refine gq_aald (pc := 25) dX11_move_25 sh_66 rfl kl_1 rfl (by decide) ?_
      refine gq_astore (pc := 26) (l' := [(6, _), (0, _), (1, _), (2, _), (3, _), (4, _), (5, _)]) dX11_move_26 (by decide) rfl ?_
      refine gq_aload_n (pc := 28) dX11_move_28 rfl ?_
      refine gq_getr (pc := 29) dX11_move_29 fl_X11_89_11 sh_0 rfl ?_
      refine gq_iload_n (pc := 32) dX11_move_32 rfl ?_
      refine gq_aald (pc := 33) dX11_move_33 sh_66 rfl kl_1 rfl (by decide) ?_
      refine gq_astore (pc := 34) (l' := [(7, _), (6, _), (0, _), (1, _), (2, _), (3, _), (4, _), (5, _)]) dX11_move_34 (by decide) rfl ?_
      refine gq_aload (pc := 36) dX11_move_36 rfl ?_
      refine kq_geto (pw := 25) (pc := 38) (by decide) dX11_move_38 fl_X11_235_7 sh_69 rfl (by unfold ge_Z; omega) ?_
      refine gq_if_eq (pc := 41) 52 dX11_move_41 (by decide) (fun h_41 => ?_) (fun h_41 => ?_)
      · exact absurd h_41 h1
      · refine gq_aload (pc := 44) dX11_move_44 rfl ?_
        refine kq_geto (pw := 25) (pc := 46) (by decide) dX11_move_46 fl_X11_235_7 sh_69 rfl (by unfold ge_Z; omega) ?_
        refine gq_if_ne (pc := 49) 58 dX11_move_49 (by decide) (fun h_49 => ?_) (fun h_49 => ?_)
        · refine gq_aload (pc := 58) dX11_move_58 rfl ?_
          refine kq_geto (pw := 25) (pc := 60) (by decide) dX11_move_60 fl_X11_235_7 sh_69 rfl (by unfold ge_Z; omega) ?_
          refine gq_aload (pc := 63) dX11_move_63 rfl ?_
          refine kq_geto (pw := 25) (pc := 65) (by decide) dX11_move_65 fl_X11_235_7 sh_69 rfl (by unfold ge_Z; omega) ?_
          refine gq_ic_eq (pc := 68) 77 dX11_move_68 (by decide) (fun h_68 => ?_) (fun h_68 => ?_)
          · refine gq_aload (pc := 77) dX11_move_77 rfl ?_
            refine gq_iload_n (pc := 79) dX11_move_79 rfl ?_
            refine gq_iload (pc := 80) dX11_move_80 rfl ?_
            refine gq_rV2i (pc := 82) dX11_move_82 cv_X11_293 sh_69 (r_holds_69 _ _) ⟨by decide, by decide⟩ rfl rfl (Nat.le_of_ble_eq_true rfl) ?_
            refine gq_if_eq (pc := 85) 100 dX11_move_85 (by decide) (fun h_85 => ?_) (fun h_85 => ?_)
            · exact absurd h_85 h4
            · refine gq_aload (pc := 88) dX11_move_88 rfl ?_
              refine gq_iload (pc := 90) dX11_move_90 rfl ?_
              refine gq_iload (pc := 92) dX11_move_92 rfl ?_
              refine gq_rV2i (pc := 94) dX11_move_94 cv_X11_293 sh_69 (r_holds_69 _ _) ⟨by decide, by decide⟩ rfl rfl (Nat.le_of_ble_eq_true rfl) ?_
              refine gq_if_ne (pc := 97) 106 dX11_move_97 (by decide) (fun h_97 => ?_) (fun h_97 => ?_)
              · refine gq_aload (pc := 106) dX11_move_106 rfl ?_
                refine gq_getr (pc := 108) dX11_move_108 fl_X11_297_7 sh_69 rfl ?_
                refine gq_iload_n (pc := 111) dX11_move_111 rfl ?_
                refine gq_aload (pc := 112) dX11_move_112 rfl ?_
                refine gq_getr (pc := 114) dX11_move_114 fl_X11_297_7 sh_69 rfl ?_
                refine gq_iload (pc := 117) dX11_move_117 rfl ?_
                refine gq_iload (pc := 119) dX11_move_119 rfl ?_
                refine kq_copy (pw := 25) (pc := 121) (by decide) (by decide) dX11_move_121 cc_X11_306 sh_70 sh_70 ea eb em q1 q2 (by decide) (by decide) (by decide) (Nat.le_of_ble_eq_true rfl) ?_
                refine gq_iload (pc := 124) dX11_move_124 rfl ?_
                exact gq_iret (pc := 126) rfl dX11_move_126 ⟨rfl, rfl⟩
              · exact absurd h_97 h5
          · exact absurd h3 h_68
        · exact absurd h_49 h2
    · exact absurd (show p_nt (p_in 1 0 3) = 0 by decide) h_11
set_option maxHeartbeats 400000 in
theorem c_move_no_1_2 {i j n : Int32} (h : g 69 2 = 0 ∨ g 71 2 = 0) : ge_N X ge_SH YX11_move 2 [.ref (ge_ad X.1 0), .int 1, .int i, .int 2, .int j, .int n] (ge_k g 25 r x hb) (some (.int (-1000000000 - 2))) (ge_k (ge_up g 75 2 (g 75 2 + 1)) 25 r x hb) := by
  refine gq_ofB (l := [(0, .ref (ge_ad X.1 0)), (1, .int 1), (2, .int i), (3, .int 2), (4, .int j), (5, .int n)]) (by decide) (Nat.le_of_ble_eq_true rfl) rfl ?_
  refine gq_iload_n (pc := 0) dX11_move_0 rfl ?_
  refine gq_rS1i (pc := 1) dX11_move_1 cs_X11_232 (c_noSheet _) ⟨by decide, by decide⟩ (Nat.le_of_ble_eq_true rfl) ?_
  refine gq_if_ne (pc := 4) 14 dX11_move_4 (by decide) (fun h_4 => ?_) (fun h_4 => ?_)
  · exact absurd h_4 (by decide)
  · refine gq_iload_n (pc := 7) dX11_move_7 rfl ?_
    refine gq_rS1i (pc := 8) dX11_move_8 cs_X11_232 (c_noSheet _) ⟨by decide, by decide⟩ (Nat.le_of_ble_eq_true rfl) ?_
    refine gq_if_eq (pc := 11) 20 dX11_move_11 (by decide) (fun h_11 => ?_) (fun h_11 => ?_)
    · refine gq_aload_n (pc := 20) dX11_move_20 rfl ?_
      refine gq_getr (pc := 21) dX11_move_21 fl_X11_89_11 sh_0 rfl ?_
      refine gq_iload_n (pc := 24) dX11_move_24 rfl ?_
      refine gq_aald (pc := 25) dX11_move_25 sh_66 rfl kl_1 rfl (by decide) ?_
      refine gq_astore (pc := 26) (l' := [(6, _), (0, _), (1, _), (2, _), (3, _), (4, _), (5, _)]) dX11_move_26 (by decide) rfl ?_
      refine gq_aload_n (pc := 28) dX11_move_28 rfl ?_
      refine gq_getr (pc := 29) dX11_move_29 fl_X11_89_11 sh_0 rfl ?_
      refine gq_iload_n (pc := 32) dX11_move_32 rfl ?_
      refine gq_aald (pc := 33) dX11_move_33 sh_66 rfl kl_2 rfl (by decide) ?_
      refine gq_astore (pc := 34) (l' := [(7, _), (6, _), (0, _), (1, _), (2, _), (3, _), (4, _), (5, _)]) dX11_move_34 (by decide) rfl ?_
      refine gq_aload (pc := 36) dX11_move_36 rfl ?_
      refine kq_geto (pw := 25) (pc := 38) (by decide) dX11_move_38 fl_X11_235_7 sh_69 rfl (by unfold ge_Z; omega) ?_
      refine gq_if_eq (pc := 41) 52 dX11_move_41 (by decide) (fun h_41 => ?_) (fun h_41 => ?_)
      · refine gq_aload_n (pc := 52) dX11_move_52 rfl ?_
        refine gq_iconst (pc := 53) dX11_move_53 kc_2 ?_
        refine gq_rV1i (pc := 54) dX11_move_54 cv_X11_109 sh_0 (c_error kl_2 (by decide)) ⟨by decide, by decide⟩ rfl rfl (Nat.le_of_ble_eq_true rfl) ?_
        exact gq_iret (pc := 57) rfl dX11_move_57 ⟨rfl, rfl⟩
      · refine gq_aload (pc := 44) dX11_move_44 rfl ?_
        refine kq_geto (pw := 25) (pc := 46) (by decide) dX11_move_46 fl_X11_235_7 sh_71 rfl (by unfold ge_Z; omega) ?_
        refine gq_if_ne (pc := 49) 58 dX11_move_49 (by decide) (fun h_49 => ?_) (fun h_49 => ?_)
        · exact (h.elim h_41 h_49).elim
        · refine gq_aload_n (pc := 52) dX11_move_52 rfl ?_
          refine gq_iconst (pc := 53) dX11_move_53 kc_2 ?_
          refine gq_rV1i (pc := 54) dX11_move_54 cv_X11_109 sh_0 (c_error kl_2 (by decide)) ⟨by decide, by decide⟩ rfl rfl (Nat.le_of_ble_eq_true rfl) ?_
          exact gq_iret (pc := 57) rfl dX11_move_57 ⟨rfl, rfl⟩
    · exact absurd (show p_nt (p_in 2 0 3) = 0 by decide) h_11
set_option maxHeartbeats 400000 in
theorem c_move_ki_1_2 {i j n : Int32} (h1 : ¬ g 69 2 = 0) (h2 : ¬ g 71 2 = 0) (h3 : ¬ g 69 2 = g 71 2) : ge_N X ge_SH YX11_move 2 [.ref (ge_ad X.1 0), .int 1, .int i, .int 2, .int j, .int n] (ge_k g 25 r x hb) (some (.int (-1000000000 - 5))) (ge_k (ge_up g 75 5 (g 75 5 + 1)) 25 r x hb) := by
  refine gq_ofB (l := [(0, .ref (ge_ad X.1 0)), (1, .int 1), (2, .int i), (3, .int 2), (4, .int j), (5, .int n)]) (by decide) (Nat.le_of_ble_eq_true rfl) rfl ?_
  refine gq_iload_n (pc := 0) dX11_move_0 rfl ?_
  refine gq_rS1i (pc := 1) dX11_move_1 cs_X11_232 (c_noSheet _) ⟨by decide, by decide⟩ (Nat.le_of_ble_eq_true rfl) ?_
  refine gq_if_ne (pc := 4) 14 dX11_move_4 (by decide) (fun h_4 => ?_) (fun h_4 => ?_)
  · exact absurd h_4 (by decide)
  · refine gq_iload_n (pc := 7) dX11_move_7 rfl ?_
    refine gq_rS1i (pc := 8) dX11_move_8 cs_X11_232 (c_noSheet _) ⟨by decide, by decide⟩ (Nat.le_of_ble_eq_true rfl) ?_
    refine gq_if_eq (pc := 11) 20 dX11_move_11 (by decide) (fun h_11 => ?_) (fun h_11 => ?_)
    · refine gq_aload_n (pc := 20) dX11_move_20 rfl ?_
      refine gq_getr (pc := 21) dX11_move_21 fl_X11_89_11 sh_0 rfl ?_
      refine gq_iload_n (pc := 24) dX11_move_24 rfl ?_
      refine gq_aald (pc := 25) dX11_move_25 sh_66 rfl kl_1 rfl (by decide) ?_
      refine gq_astore (pc := 26) (l' := [(6, _), (0, _), (1, _), (2, _), (3, _), (4, _), (5, _)]) dX11_move_26 (by decide) rfl ?_
      refine gq_aload_n (pc := 28) dX11_move_28 rfl ?_
      refine gq_getr (pc := 29) dX11_move_29 fl_X11_89_11 sh_0 rfl ?_
      refine gq_iload_n (pc := 32) dX11_move_32 rfl ?_
      refine gq_aald (pc := 33) dX11_move_33 sh_66 rfl kl_2 rfl (by decide) ?_
      refine gq_astore (pc := 34) (l' := [(7, _), (6, _), (0, _), (1, _), (2, _), (3, _), (4, _), (5, _)]) dX11_move_34 (by decide) rfl ?_
      refine gq_aload (pc := 36) dX11_move_36 rfl ?_
      refine kq_geto (pw := 25) (pc := 38) (by decide) dX11_move_38 fl_X11_235_7 sh_69 rfl (by unfold ge_Z; omega) ?_
      refine gq_if_eq (pc := 41) 52 dX11_move_41 (by decide) (fun h_41 => ?_) (fun h_41 => ?_)
      · exact absurd h_41 h1
      · refine gq_aload (pc := 44) dX11_move_44 rfl ?_
        refine kq_geto (pw := 25) (pc := 46) (by decide) dX11_move_46 fl_X11_235_7 sh_71 rfl (by unfold ge_Z; omega) ?_
        refine gq_if_ne (pc := 49) 58 dX11_move_49 (by decide) (fun h_49 => ?_) (fun h_49 => ?_)
        · refine gq_aload (pc := 58) dX11_move_58 rfl ?_
          refine kq_geto (pw := 25) (pc := 60) (by decide) dX11_move_60 fl_X11_235_7 sh_69 rfl (by unfold ge_Z; omega) ?_
          refine gq_aload (pc := 63) dX11_move_63 rfl ?_
          refine kq_geto (pw := 25) (pc := 65) (by decide) dX11_move_65 fl_X11_235_7 sh_71 rfl (by unfold ge_Z; omega) ?_
          refine gq_ic_eq (pc := 68) 77 dX11_move_68 (by decide) (fun h_68 => ?_) (fun h_68 => ?_)
          · exact absurd h_68 h3
          · refine gq_aload_n (pc := 71) dX11_move_71 rfl ?_
            refine gq_iconst (pc := 72) dX11_move_72 kc_5 ?_
            refine gq_rV1i (pc := 73) dX11_move_73 cv_X11_109 sh_0 (c_error kl_5 (by decide)) ⟨by decide, by decide⟩ rfl rfl (Nat.le_of_ble_eq_true rfl) ?_
            exact gq_iret (pc := 76) rfl dX11_move_76 ⟨rfl, rfl⟩
        · exact absurd h_49 h2
    · exact absurd (show p_nt (p_in 2 0 3) = 0 by decide) h_11
set_option maxHeartbeats 400000 in
theorem c_move_er2_1_2 {i j n : Int32} (h1 : ¬ g 69 2 = 0) (h2 : ¬ g 71 2 = 0) (h3 : g 69 2 = g 71 2) (h4 : p_hold (g 69 1) i n = 0 ∨ p_hold (g 71 1) j n = 0) : ge_N X ge_SH YX11_move 2 [.ref (ge_ad X.1 0), .int 1, .int i, .int 2, .int j, .int n] (ge_k g 25 r x hb) (some (.int (-1000000000 - 1))) (ge_k (ge_up g 75 1 (g 75 1 + 1)) 25 r x hb) := by
  refine gq_ofB (l := [(0, .ref (ge_ad X.1 0)), (1, .int 1), (2, .int i), (3, .int 2), (4, .int j), (5, .int n)]) (by decide) (Nat.le_of_ble_eq_true rfl) rfl ?_
  refine gq_iload_n (pc := 0) dX11_move_0 rfl ?_
  refine gq_rS1i (pc := 1) dX11_move_1 cs_X11_232 (c_noSheet _) ⟨by decide, by decide⟩ (Nat.le_of_ble_eq_true rfl) ?_
  refine gq_if_ne (pc := 4) 14 dX11_move_4 (by decide) (fun h_4 => ?_) (fun h_4 => ?_)
  · exact absurd h_4 (by decide)
  · refine gq_iload_n (pc := 7) dX11_move_7 rfl ?_
    refine gq_rS1i (pc := 8) dX11_move_8 cs_X11_232 (c_noSheet _) ⟨by decide, by decide⟩ (Nat.le_of_ble_eq_true rfl) ?_
    refine gq_if_eq (pc := 11) 20 dX11_move_11 (by decide) (fun h_11 => ?_) (fun h_11 => ?_)
    · refine gq_aload_n (pc := 20) dX11_move_20 rfl ?_
      refine gq_getr (pc := 21) dX11_move_21 fl_X11_89_11 sh_0 rfl ?_
      refine gq_iload_n (pc := 24) dX11_move_24 rfl ?_
      refine gq_aald (pc := 25) dX11_move_25 sh_66 rfl kl_1 rfl (by decide) ?_
      refine gq_astore (pc := 26) (l' := [(6, _), (0, _), (1, _), (2, _), (3, _), (4, _), (5, _)]) dX11_move_26 (by decide) rfl ?_
      refine gq_aload_n (pc := 28) dX11_move_28 rfl ?_
      refine gq_getr (pc := 29) dX11_move_29 fl_X11_89_11 sh_0 rfl ?_
      refine gq_iload_n (pc := 32) dX11_move_32 rfl ?_
      refine gq_aald (pc := 33) dX11_move_33 sh_66 rfl kl_2 rfl (by decide) ?_
      refine gq_astore (pc := 34) (l' := [(7, _), (6, _), (0, _), (1, _), (2, _), (3, _), (4, _), (5, _)]) dX11_move_34 (by decide) rfl ?_
      refine gq_aload (pc := 36) dX11_move_36 rfl ?_
      refine kq_geto (pw := 25) (pc := 38) (by decide) dX11_move_38 fl_X11_235_7 sh_69 rfl (by unfold ge_Z; omega) ?_
      refine gq_if_eq (pc := 41) 52 dX11_move_41 (by decide) (fun h_41 => ?_) (fun h_41 => ?_)
      · exact absurd h_41 h1
      · refine gq_aload (pc := 44) dX11_move_44 rfl ?_
        refine kq_geto (pw := 25) (pc := 46) (by decide) dX11_move_46 fl_X11_235_7 sh_71 rfl (by unfold ge_Z; omega) ?_
        refine gq_if_ne (pc := 49) 58 dX11_move_49 (by decide) (fun h_49 => ?_) (fun h_49 => ?_)
        · refine gq_aload (pc := 58) dX11_move_58 rfl ?_
          refine kq_geto (pw := 25) (pc := 60) (by decide) dX11_move_60 fl_X11_235_7 sh_69 rfl (by unfold ge_Z; omega) ?_
          refine gq_aload (pc := 63) dX11_move_63 rfl ?_
          refine kq_geto (pw := 25) (pc := 65) (by decide) dX11_move_65 fl_X11_235_7 sh_71 rfl (by unfold ge_Z; omega) ?_
          refine gq_ic_eq (pc := 68) 77 dX11_move_68 (by decide) (fun h_68 => ?_) (fun h_68 => ?_)
          · refine gq_aload (pc := 77) dX11_move_77 rfl ?_
            refine gq_iload_n (pc := 79) dX11_move_79 rfl ?_
            refine gq_iload (pc := 80) dX11_move_80 rfl ?_
            refine gq_rV2i (pc := 82) dX11_move_82 cv_X11_293 sh_69 (r_holds_69 _ _) ⟨by decide, by decide⟩ rfl rfl (Nat.le_of_ble_eq_true rfl) ?_
            refine gq_if_eq (pc := 85) 100 dX11_move_85 (by decide) (fun h_85 => ?_) (fun h_85 => ?_)
            · refine gq_aload_n (pc := 100) dX11_move_100 rfl ?_
              refine gq_iconst (pc := 101) dX11_move_101 kc_1 ?_
              refine gq_rV1i (pc := 102) dX11_move_102 cv_X11_109 sh_0 (c_error kl_1 (by decide)) ⟨by decide, by decide⟩ rfl rfl (Nat.le_of_ble_eq_true rfl) ?_
              exact gq_iret (pc := 105) rfl dX11_move_105 ⟨rfl, rfl⟩
            · refine gq_aload (pc := 88) dX11_move_88 rfl ?_
              refine gq_iload (pc := 90) dX11_move_90 rfl ?_
              refine gq_iload (pc := 92) dX11_move_92 rfl ?_
              refine gq_rV2i (pc := 94) dX11_move_94 cv_X11_293 sh_71 (r_holds_71 _ _) ⟨by decide, by decide⟩ rfl rfl (Nat.le_of_ble_eq_true rfl) ?_
              refine gq_if_ne (pc := 97) 106 dX11_move_97 (by decide) (fun h_97 => ?_) (fun h_97 => ?_)
              · exact (h4.elim h_85 h_97).elim
              · refine gq_aload_n (pc := 100) dX11_move_100 rfl ?_
                refine gq_iconst (pc := 101) dX11_move_101 kc_1 ?_
                refine gq_rV1i (pc := 102) dX11_move_102 cv_X11_109 sh_0 (c_error kl_1 (by decide)) ⟨by decide, by decide⟩ rfl rfl (Nat.le_of_ble_eq_true rfl) ?_
                exact gq_iret (pc := 105) rfl dX11_move_105 ⟨rfl, rfl⟩
          · exact absurd h3 h_68
        · exact absurd h_49 h2
    · exact absurd (show p_nt (p_in 2 0 3) = 0 by decide) h_11
set_option maxHeartbeats 400000 in
theorem c_move_ok_1_2 {i j n : Int32} (h1 : ¬ g 69 2 = 0) (h2 : ¬ g 71 2 = 0) (h3 : g 69 2 = g 71 2) (h4 : ¬ p_hold (g 69 1) i n = 0) (h5 : ¬ p_hold (g 71 1) j n = 0) {a b m : Nat} (ea : i = nI a) (eb : j = nI b) (em : n = nI m) (q1 : a + m ≤ 40) (q2 : b + m ≤ 40) : ge_N X ge_SH YX11_move 2 [.ref (ge_ad X.1 0), .int 1, .int i, .int 2, .int j, .int n] (ge_k g 25 r x hb) (some (.int n)) (ge_k (ge_row g 72 (va_cpy (g 70) (g 72) a b m)) 25 r x hb) := by
  refine gq_ofB (l := [(0, .ref (ge_ad X.1 0)), (1, .int 1), (2, .int i), (3, .int 2), (4, .int j), (5, .int n)]) (by decide) (Nat.le_of_ble_eq_true rfl) rfl ?_
  refine gq_iload_n (pc := 0) dX11_move_0 rfl ?_
  refine gq_rS1i (pc := 1) dX11_move_1 cs_X11_232 (c_noSheet _) ⟨by decide, by decide⟩ (Nat.le_of_ble_eq_true rfl) ?_
  refine gq_if_ne (pc := 4) 14 dX11_move_4 (by decide) (fun h_4 => ?_) (fun h_4 => ?_)
  · exact absurd h_4 (by decide)
  · refine gq_iload_n (pc := 7) dX11_move_7 rfl ?_
    refine gq_rS1i (pc := 8) dX11_move_8 cs_X11_232 (c_noSheet _) ⟨by decide, by decide⟩ (Nat.le_of_ble_eq_true rfl) ?_
    refine gq_if_eq (pc := 11) 20 dX11_move_11 (by decide) (fun h_11 => ?_) (fun h_11 => ?_)
    · refine gq_aload_n (pc := 20) dX11_move_20 rfl ?_
      refine gq_getr (pc := 21) dX11_move_21 fl_X11_89_11 sh_0 rfl ?_
      refine gq_iload_n (pc := 24) dX11_move_24 rfl ?_
      refine gq_aald (pc := 25) dX11_move_25 sh_66 rfl kl_1 rfl (by decide) ?_
      refine gq_astore (pc := 26) (l' := [(6, _), (0, _), (1, _), (2, _), (3, _), (4, _), (5, _)]) dX11_move_26 (by decide) rfl ?_
      refine gq_aload_n (pc := 28) dX11_move_28 rfl ?_
      refine gq_getr (pc := 29) dX11_move_29 fl_X11_89_11 sh_0 rfl ?_
      refine gq_iload_n (pc := 32) dX11_move_32 rfl ?_
      refine gq_aald (pc := 33) dX11_move_33 sh_66 rfl kl_2 rfl (by decide) ?_
      refine gq_astore (pc := 34) (l' := [(7, _), (6, _), (0, _), (1, _), (2, _), (3, _), (4, _), (5, _)]) dX11_move_34 (by decide) rfl ?_
      refine gq_aload (pc := 36) dX11_move_36 rfl ?_
      refine kq_geto (pw := 25) (pc := 38) (by decide) dX11_move_38 fl_X11_235_7 sh_69 rfl (by unfold ge_Z; omega) ?_
      refine gq_if_eq (pc := 41) 52 dX11_move_41 (by decide) (fun h_41 => ?_) (fun h_41 => ?_)
      · exact absurd h_41 h1
      · refine gq_aload (pc := 44) dX11_move_44 rfl ?_
        refine kq_geto (pw := 25) (pc := 46) (by decide) dX11_move_46 fl_X11_235_7 sh_71 rfl (by unfold ge_Z; omega) ?_
        refine gq_if_ne (pc := 49) 58 dX11_move_49 (by decide) (fun h_49 => ?_) (fun h_49 => ?_)
        · refine gq_aload (pc := 58) dX11_move_58 rfl ?_
          refine kq_geto (pw := 25) (pc := 60) (by decide) dX11_move_60 fl_X11_235_7 sh_69 rfl (by unfold ge_Z; omega) ?_
          refine gq_aload (pc := 63) dX11_move_63 rfl ?_
          refine kq_geto (pw := 25) (pc := 65) (by decide) dX11_move_65 fl_X11_235_7 sh_71 rfl (by unfold ge_Z; omega) ?_
          refine gq_ic_eq (pc := 68) 77 dX11_move_68 (by decide) (fun h_68 => ?_) (fun h_68 => ?_)
          · refine gq_aload (pc := 77) dX11_move_77 rfl ?_
            refine gq_iload_n (pc := 79) dX11_move_79 rfl ?_
            refine gq_iload (pc := 80) dX11_move_80 rfl ?_
            refine gq_rV2i (pc := 82) dX11_move_82 cv_X11_293 sh_69 (r_holds_69 _ _) ⟨by decide, by decide⟩ rfl rfl (Nat.le_of_ble_eq_true rfl) ?_
            refine gq_if_eq (pc := 85) 100 dX11_move_85 (by decide) (fun h_85 => ?_) (fun h_85 => ?_)
            · exact absurd h_85 h4
            · refine gq_aload (pc := 88) dX11_move_88 rfl ?_
              refine gq_iload (pc := 90) dX11_move_90 rfl ?_
              refine gq_iload (pc := 92) dX11_move_92 rfl ?_
              refine gq_rV2i (pc := 94) dX11_move_94 cv_X11_293 sh_71 (r_holds_71 _ _) ⟨by decide, by decide⟩ rfl rfl (Nat.le_of_ble_eq_true rfl) ?_
              refine gq_if_ne (pc := 97) 106 dX11_move_97 (by decide) (fun h_97 => ?_) (fun h_97 => ?_)
              · refine gq_aload (pc := 106) dX11_move_106 rfl ?_
                refine gq_getr (pc := 108) dX11_move_108 fl_X11_297_7 sh_69 rfl ?_
                refine gq_iload_n (pc := 111) dX11_move_111 rfl ?_
                refine gq_aload (pc := 112) dX11_move_112 rfl ?_
                refine gq_getr (pc := 114) dX11_move_114 fl_X11_297_7 sh_71 rfl ?_
                refine gq_iload (pc := 117) dX11_move_117 rfl ?_
                refine gq_iload (pc := 119) dX11_move_119 rfl ?_
                refine kq_copy (pw := 25) (pc := 121) (by decide) (by decide) dX11_move_121 cc_X11_306 sh_70 sh_72 ea eb em q1 q2 (by decide) (by decide) (by decide) (Nat.le_of_ble_eq_true rfl) ?_
                refine gq_iload (pc := 124) dX11_move_124 rfl ?_
                exact gq_iret (pc := 126) rfl dX11_move_126 ⟨rfl, rfl⟩
              · exact absurd h_97 h5
          · exact absurd h3 h_68
        · exact absurd h_49 h2
    · exact absurd (show p_nt (p_in 2 0 3) = 0 by decide) h_11
set_option maxHeartbeats 400000 in
theorem c_move_no_1_3 {i j n : Int32} (h : g 69 2 = 0 ∨ g 73 2 = 0) : ge_N X ge_SH YX11_move 2 [.ref (ge_ad X.1 0), .int 1, .int i, .int 3, .int j, .int n] (ge_k g 25 r x hb) (some (.int (-1000000000 - 2))) (ge_k (ge_up g 75 2 (g 75 2 + 1)) 25 r x hb) := by
  refine gq_ofB (l := [(0, .ref (ge_ad X.1 0)), (1, .int 1), (2, .int i), (3, .int 3), (4, .int j), (5, .int n)]) (by decide) (Nat.le_of_ble_eq_true rfl) rfl ?_
  refine gq_iload_n (pc := 0) dX11_move_0 rfl ?_
  refine gq_rS1i (pc := 1) dX11_move_1 cs_X11_232 (c_noSheet _) ⟨by decide, by decide⟩ (Nat.le_of_ble_eq_true rfl) ?_
  refine gq_if_ne (pc := 4) 14 dX11_move_4 (by decide) (fun h_4 => ?_) (fun h_4 => ?_)
  · exact absurd h_4 (by decide)
  · refine gq_iload_n (pc := 7) dX11_move_7 rfl ?_
    refine gq_rS1i (pc := 8) dX11_move_8 cs_X11_232 (c_noSheet _) ⟨by decide, by decide⟩ (Nat.le_of_ble_eq_true rfl) ?_
    refine gq_if_eq (pc := 11) 20 dX11_move_11 (by decide) (fun h_11 => ?_) (fun h_11 => ?_)
    · refine gq_aload_n (pc := 20) dX11_move_20 rfl ?_
      refine gq_getr (pc := 21) dX11_move_21 fl_X11_89_11 sh_0 rfl ?_
      refine gq_iload_n (pc := 24) dX11_move_24 rfl ?_
      refine gq_aald (pc := 25) dX11_move_25 sh_66 rfl kl_1 rfl (by decide) ?_
      refine gq_astore (pc := 26) (l' := [(6, _), (0, _), (1, _), (2, _), (3, _), (4, _), (5, _)]) dX11_move_26 (by decide) rfl ?_
      refine gq_aload_n (pc := 28) dX11_move_28 rfl ?_
      refine gq_getr (pc := 29) dX11_move_29 fl_X11_89_11 sh_0 rfl ?_
      refine gq_iload_n (pc := 32) dX11_move_32 rfl ?_
      refine gq_aald (pc := 33) dX11_move_33 sh_66 rfl kl_3 rfl (by decide) ?_
      refine gq_astore (pc := 34) (l' := [(7, _), (6, _), (0, _), (1, _), (2, _), (3, _), (4, _), (5, _)]) dX11_move_34 (by decide) rfl ?_
      refine gq_aload (pc := 36) dX11_move_36 rfl ?_
      refine kq_geto (pw := 25) (pc := 38) (by decide) dX11_move_38 fl_X11_235_7 sh_69 rfl (by unfold ge_Z; omega) ?_
      refine gq_if_eq (pc := 41) 52 dX11_move_41 (by decide) (fun h_41 => ?_) (fun h_41 => ?_)
      · refine gq_aload_n (pc := 52) dX11_move_52 rfl ?_
        refine gq_iconst (pc := 53) dX11_move_53 kc_2 ?_
        refine gq_rV1i (pc := 54) dX11_move_54 cv_X11_109 sh_0 (c_error kl_2 (by decide)) ⟨by decide, by decide⟩ rfl rfl (Nat.le_of_ble_eq_true rfl) ?_
        exact gq_iret (pc := 57) rfl dX11_move_57 ⟨rfl, rfl⟩
      · refine gq_aload (pc := 44) dX11_move_44 rfl ?_
        refine kq_geto (pw := 25) (pc := 46) (by decide) dX11_move_46 fl_X11_235_7 sh_73 rfl (by unfold ge_Z; omega) ?_
        refine gq_if_ne (pc := 49) 58 dX11_move_49 (by decide) (fun h_49 => ?_) (fun h_49 => ?_)
        · exact (h.elim h_41 h_49).elim
        · refine gq_aload_n (pc := 52) dX11_move_52 rfl ?_
          refine gq_iconst (pc := 53) dX11_move_53 kc_2 ?_
          refine gq_rV1i (pc := 54) dX11_move_54 cv_X11_109 sh_0 (c_error kl_2 (by decide)) ⟨by decide, by decide⟩ rfl rfl (Nat.le_of_ble_eq_true rfl) ?_
          exact gq_iret (pc := 57) rfl dX11_move_57 ⟨rfl, rfl⟩
    · exact absurd (show p_nt (p_in 3 0 3) = 0 by decide) h_11
set_option maxHeartbeats 400000 in
theorem c_move_ki_1_3 {i j n : Int32} (h1 : ¬ g 69 2 = 0) (h2 : ¬ g 73 2 = 0) (h3 : ¬ g 69 2 = g 73 2) : ge_N X ge_SH YX11_move 2 [.ref (ge_ad X.1 0), .int 1, .int i, .int 3, .int j, .int n] (ge_k g 25 r x hb) (some (.int (-1000000000 - 5))) (ge_k (ge_up g 75 5 (g 75 5 + 1)) 25 r x hb) := by
  refine gq_ofB (l := [(0, .ref (ge_ad X.1 0)), (1, .int 1), (2, .int i), (3, .int 3), (4, .int j), (5, .int n)]) (by decide) (Nat.le_of_ble_eq_true rfl) rfl ?_
  refine gq_iload_n (pc := 0) dX11_move_0 rfl ?_
  refine gq_rS1i (pc := 1) dX11_move_1 cs_X11_232 (c_noSheet _) ⟨by decide, by decide⟩ (Nat.le_of_ble_eq_true rfl) ?_
  refine gq_if_ne (pc := 4) 14 dX11_move_4 (by decide) (fun h_4 => ?_) (fun h_4 => ?_)
  · exact absurd h_4 (by decide)
  · refine gq_iload_n (pc := 7) dX11_move_7 rfl ?_
    refine gq_rS1i (pc := 8) dX11_move_8 cs_X11_232 (c_noSheet _) ⟨by decide, by decide⟩ (Nat.le_of_ble_eq_true rfl) ?_
    refine gq_if_eq (pc := 11) 20 dX11_move_11 (by decide) (fun h_11 => ?_) (fun h_11 => ?_)
    · refine gq_aload_n (pc := 20) dX11_move_20 rfl ?_
      refine gq_getr (pc := 21) dX11_move_21 fl_X11_89_11 sh_0 rfl ?_
      refine gq_iload_n (pc := 24) dX11_move_24 rfl ?_
      refine gq_aald (pc := 25) dX11_move_25 sh_66 rfl kl_1 rfl (by decide) ?_
      refine gq_astore (pc := 26) (l' := [(6, _), (0, _), (1, _), (2, _), (3, _), (4, _), (5, _)]) dX11_move_26 (by decide) rfl ?_
      refine gq_aload_n (pc := 28) dX11_move_28 rfl ?_
      refine gq_getr (pc := 29) dX11_move_29 fl_X11_89_11 sh_0 rfl ?_
      refine gq_iload_n (pc := 32) dX11_move_32 rfl ?_
      refine gq_aald (pc := 33) dX11_move_33 sh_66 rfl kl_3 rfl (by decide) ?_
      refine gq_astore (pc := 34) (l' := [(7, _), (6, _), (0, _), (1, _), (2, _), (3, _), (4, _), (5, _)]) dX11_move_34 (by decide) rfl ?_
      refine gq_aload (pc := 36) dX11_move_36 rfl ?_
      refine kq_geto (pw := 25) (pc := 38) (by decide) dX11_move_38 fl_X11_235_7 sh_69 rfl (by unfold ge_Z; omega) ?_
      refine gq_if_eq (pc := 41) 52 dX11_move_41 (by decide) (fun h_41 => ?_) (fun h_41 => ?_)
      · exact absurd h_41 h1
      · refine gq_aload (pc := 44) dX11_move_44 rfl ?_
        refine kq_geto (pw := 25) (pc := 46) (by decide) dX11_move_46 fl_X11_235_7 sh_73 rfl (by unfold ge_Z; omega) ?_
        refine gq_if_ne (pc := 49) 58 dX11_move_49 (by decide) (fun h_49 => ?_) (fun h_49 => ?_)
        · refine gq_aload (pc := 58) dX11_move_58 rfl ?_
          refine kq_geto (pw := 25) (pc := 60) (by decide) dX11_move_60 fl_X11_235_7 sh_69 rfl (by unfold ge_Z; omega) ?_
          refine gq_aload (pc := 63) dX11_move_63 rfl ?_
          refine kq_geto (pw := 25) (pc := 65) (by decide) dX11_move_65 fl_X11_235_7 sh_73 rfl (by unfold ge_Z; omega) ?_
          refine gq_ic_eq (pc := 68) 77 dX11_move_68 (by decide) (fun h_68 => ?_) (fun h_68 => ?_)
          · exact absurd h_68 h3
          · refine gq_aload_n (pc := 71) dX11_move_71 rfl ?_
            refine gq_iconst (pc := 72) dX11_move_72 kc_5 ?_
            refine gq_rV1i (pc := 73) dX11_move_73 cv_X11_109 sh_0 (c_error kl_5 (by decide)) ⟨by decide, by decide⟩ rfl rfl (Nat.le_of_ble_eq_true rfl) ?_
            exact gq_iret (pc := 76) rfl dX11_move_76 ⟨rfl, rfl⟩
        · exact absurd h_49 h2
    · exact absurd (show p_nt (p_in 3 0 3) = 0 by decide) h_11
set_option maxHeartbeats 400000 in
theorem c_move_er2_1_3 {i j n : Int32} (h1 : ¬ g 69 2 = 0) (h2 : ¬ g 73 2 = 0) (h3 : g 69 2 = g 73 2) (h4 : p_hold (g 69 1) i n = 0 ∨ p_hold (g 73 1) j n = 0) : ge_N X ge_SH YX11_move 2 [.ref (ge_ad X.1 0), .int 1, .int i, .int 3, .int j, .int n] (ge_k g 25 r x hb) (some (.int (-1000000000 - 1))) (ge_k (ge_up g 75 1 (g 75 1 + 1)) 25 r x hb) := by
  refine gq_ofB (l := [(0, .ref (ge_ad X.1 0)), (1, .int 1), (2, .int i), (3, .int 3), (4, .int j), (5, .int n)]) (by decide) (Nat.le_of_ble_eq_true rfl) rfl ?_
  refine gq_iload_n (pc := 0) dX11_move_0 rfl ?_
  refine gq_rS1i (pc := 1) dX11_move_1 cs_X11_232 (c_noSheet _) ⟨by decide, by decide⟩ (Nat.le_of_ble_eq_true rfl) ?_
  refine gq_if_ne (pc := 4) 14 dX11_move_4 (by decide) (fun h_4 => ?_) (fun h_4 => ?_)
  · exact absurd h_4 (by decide)
  · refine gq_iload_n (pc := 7) dX11_move_7 rfl ?_
    refine gq_rS1i (pc := 8) dX11_move_8 cs_X11_232 (c_noSheet _) ⟨by decide, by decide⟩ (Nat.le_of_ble_eq_true rfl) ?_
    refine gq_if_eq (pc := 11) 20 dX11_move_11 (by decide) (fun h_11 => ?_) (fun h_11 => ?_)
    · refine gq_aload_n (pc := 20) dX11_move_20 rfl ?_
      refine gq_getr (pc := 21) dX11_move_21 fl_X11_89_11 sh_0 rfl ?_
      refine gq_iload_n (pc := 24) dX11_move_24 rfl ?_
      refine gq_aald (pc := 25) dX11_move_25 sh_66 rfl kl_1 rfl (by decide) ?_
      refine gq_astore (pc := 26) (l' := [(6, _), (0, _), (1, _), (2, _), (3, _), (4, _), (5, _)]) dX11_move_26 (by decide) rfl ?_
      refine gq_aload_n (pc := 28) dX11_move_28 rfl ?_
      refine gq_getr (pc := 29) dX11_move_29 fl_X11_89_11 sh_0 rfl ?_
      refine gq_iload_n (pc := 32) dX11_move_32 rfl ?_
      refine gq_aald (pc := 33) dX11_move_33 sh_66 rfl kl_3 rfl (by decide) ?_
      refine gq_astore (pc := 34) (l' := [(7, _), (6, _), (0, _), (1, _), (2, _), (3, _), (4, _), (5, _)]) dX11_move_34 (by decide) rfl ?_
      refine gq_aload (pc := 36) dX11_move_36 rfl ?_
      refine kq_geto (pw := 25) (pc := 38) (by decide) dX11_move_38 fl_X11_235_7 sh_69 rfl (by unfold ge_Z; omega) ?_
      refine gq_if_eq (pc := 41) 52 dX11_move_41 (by decide) (fun h_41 => ?_) (fun h_41 => ?_)
      · exact absurd h_41 h1
      · refine gq_aload (pc := 44) dX11_move_44 rfl ?_
        refine kq_geto (pw := 25) (pc := 46) (by decide) dX11_move_46 fl_X11_235_7 sh_73 rfl (by unfold ge_Z; omega) ?_
        refine gq_if_ne (pc := 49) 58 dX11_move_49 (by decide) (fun h_49 => ?_) (fun h_49 => ?_)
        · refine gq_aload (pc := 58) dX11_move_58 rfl ?_
          refine kq_geto (pw := 25) (pc := 60) (by decide) dX11_move_60 fl_X11_235_7 sh_69 rfl (by unfold ge_Z; omega) ?_
          refine gq_aload (pc := 63) dX11_move_63 rfl ?_
          refine kq_geto (pw := 25) (pc := 65) (by decide) dX11_move_65 fl_X11_235_7 sh_73 rfl (by unfold ge_Z; omega) ?_
          refine gq_ic_eq (pc := 68) 77 dX11_move_68 (by decide) (fun h_68 => ?_) (fun h_68 => ?_)
          · refine gq_aload (pc := 77) dX11_move_77 rfl ?_
            refine gq_iload_n (pc := 79) dX11_move_79 rfl ?_
            refine gq_iload (pc := 80) dX11_move_80 rfl ?_
            refine gq_rV2i (pc := 82) dX11_move_82 cv_X11_293 sh_69 (r_holds_69 _ _) ⟨by decide, by decide⟩ rfl rfl (Nat.le_of_ble_eq_true rfl) ?_
            refine gq_if_eq (pc := 85) 100 dX11_move_85 (by decide) (fun h_85 => ?_) (fun h_85 => ?_)
            · refine gq_aload_n (pc := 100) dX11_move_100 rfl ?_
              refine gq_iconst (pc := 101) dX11_move_101 kc_1 ?_
              refine gq_rV1i (pc := 102) dX11_move_102 cv_X11_109 sh_0 (c_error kl_1 (by decide)) ⟨by decide, by decide⟩ rfl rfl (Nat.le_of_ble_eq_true rfl) ?_
              exact gq_iret (pc := 105) rfl dX11_move_105 ⟨rfl, rfl⟩
            · refine gq_aload (pc := 88) dX11_move_88 rfl ?_
              refine gq_iload (pc := 90) dX11_move_90 rfl ?_
              refine gq_iload (pc := 92) dX11_move_92 rfl ?_
              refine gq_rV2i (pc := 94) dX11_move_94 cv_X11_293 sh_73 (r_holds_73 _ _) ⟨by decide, by decide⟩ rfl rfl (Nat.le_of_ble_eq_true rfl) ?_
              refine gq_if_ne (pc := 97) 106 dX11_move_97 (by decide) (fun h_97 => ?_) (fun h_97 => ?_)
              · exact (h4.elim h_85 h_97).elim
              · refine gq_aload_n (pc := 100) dX11_move_100 rfl ?_
                refine gq_iconst (pc := 101) dX11_move_101 kc_1 ?_
                refine gq_rV1i (pc := 102) dX11_move_102 cv_X11_109 sh_0 (c_error kl_1 (by decide)) ⟨by decide, by decide⟩ rfl rfl (Nat.le_of_ble_eq_true rfl) ?_
                exact gq_iret (pc := 105) rfl dX11_move_105 ⟨rfl, rfl⟩
          · exact absurd h3 h_68
        · exact absurd h_49 h2
    · exact absurd (show p_nt (p_in 3 0 3) = 0 by decide) h_11
set_option maxHeartbeats 400000 in
theorem c_move_ok_1_3 {i j n : Int32} (h1 : ¬ g 69 2 = 0) (h2 : ¬ g 73 2 = 0) (h3 : g 69 2 = g 73 2) (h4 : ¬ p_hold (g 69 1) i n = 0) (h5 : ¬ p_hold (g 73 1) j n = 0) {a b m : Nat} (ea : i = nI a) (eb : j = nI b) (em : n = nI m) (q1 : a + m ≤ 40) (q2 : b + m ≤ 40) : ge_N X ge_SH YX11_move 2 [.ref (ge_ad X.1 0), .int 1, .int i, .int 3, .int j, .int n] (ge_k g 25 r x hb) (some (.int n)) (ge_k (ge_row g 74 (va_cpy (g 70) (g 74) a b m)) 25 r x hb) := by
  refine gq_ofB (l := [(0, .ref (ge_ad X.1 0)), (1, .int 1), (2, .int i), (3, .int 3), (4, .int j), (5, .int n)]) (by decide) (Nat.le_of_ble_eq_true rfl) rfl ?_
  refine gq_iload_n (pc := 0) dX11_move_0 rfl ?_
  refine gq_rS1i (pc := 1) dX11_move_1 cs_X11_232 (c_noSheet _) ⟨by decide, by decide⟩ (Nat.le_of_ble_eq_true rfl) ?_
  refine gq_if_ne (pc := 4) 14 dX11_move_4 (by decide) (fun h_4 => ?_) (fun h_4 => ?_)
  · exact absurd h_4 (by decide)
  · refine gq_iload_n (pc := 7) dX11_move_7 rfl ?_
    refine gq_rS1i (pc := 8) dX11_move_8 cs_X11_232 (c_noSheet _) ⟨by decide, by decide⟩ (Nat.le_of_ble_eq_true rfl) ?_
    refine gq_if_eq (pc := 11) 20 dX11_move_11 (by decide) (fun h_11 => ?_) (fun h_11 => ?_)
    · refine gq_aload_n (pc := 20) dX11_move_20 rfl ?_
      refine gq_getr (pc := 21) dX11_move_21 fl_X11_89_11 sh_0 rfl ?_
      refine gq_iload_n (pc := 24) dX11_move_24 rfl ?_
      refine gq_aald (pc := 25) dX11_move_25 sh_66 rfl kl_1 rfl (by decide) ?_
      refine gq_astore (pc := 26) (l' := [(6, _), (0, _), (1, _), (2, _), (3, _), (4, _), (5, _)]) dX11_move_26 (by decide) rfl ?_
      refine gq_aload_n (pc := 28) dX11_move_28 rfl ?_
      refine gq_getr (pc := 29) dX11_move_29 fl_X11_89_11 sh_0 rfl ?_
      refine gq_iload_n (pc := 32) dX11_move_32 rfl ?_
      refine gq_aald (pc := 33) dX11_move_33 sh_66 rfl kl_3 rfl (by decide) ?_
      refine gq_astore (pc := 34) (l' := [(7, _), (6, _), (0, _), (1, _), (2, _), (3, _), (4, _), (5, _)]) dX11_move_34 (by decide) rfl ?_
      refine gq_aload (pc := 36) dX11_move_36 rfl ?_
      refine kq_geto (pw := 25) (pc := 38) (by decide) dX11_move_38 fl_X11_235_7 sh_69 rfl (by unfold ge_Z; omega) ?_
      refine gq_if_eq (pc := 41) 52 dX11_move_41 (by decide) (fun h_41 => ?_) (fun h_41 => ?_)
      · exact absurd h_41 h1
      · refine gq_aload (pc := 44) dX11_move_44 rfl ?_
        refine kq_geto (pw := 25) (pc := 46) (by decide) dX11_move_46 fl_X11_235_7 sh_73 rfl (by unfold ge_Z; omega) ?_
        refine gq_if_ne (pc := 49) 58 dX11_move_49 (by decide) (fun h_49 => ?_) (fun h_49 => ?_)
        · refine gq_aload (pc := 58) dX11_move_58 rfl ?_
          refine kq_geto (pw := 25) (pc := 60) (by decide) dX11_move_60 fl_X11_235_7 sh_69 rfl (by unfold ge_Z; omega) ?_
          refine gq_aload (pc := 63) dX11_move_63 rfl ?_
          refine kq_geto (pw := 25) (pc := 65) (by decide) dX11_move_65 fl_X11_235_7 sh_73 rfl (by unfold ge_Z; omega) ?_
          refine gq_ic_eq (pc := 68) 77 dX11_move_68 (by decide) (fun h_68 => ?_) (fun h_68 => ?_)
          · refine gq_aload (pc := 77) dX11_move_77 rfl ?_
            refine gq_iload_n (pc := 79) dX11_move_79 rfl ?_
            refine gq_iload (pc := 80) dX11_move_80 rfl ?_
            refine gq_rV2i (pc := 82) dX11_move_82 cv_X11_293 sh_69 (r_holds_69 _ _) ⟨by decide, by decide⟩ rfl rfl (Nat.le_of_ble_eq_true rfl) ?_
            refine gq_if_eq (pc := 85) 100 dX11_move_85 (by decide) (fun h_85 => ?_) (fun h_85 => ?_)
            · exact absurd h_85 h4
            · refine gq_aload (pc := 88) dX11_move_88 rfl ?_
              refine gq_iload (pc := 90) dX11_move_90 rfl ?_
              refine gq_iload (pc := 92) dX11_move_92 rfl ?_
              refine gq_rV2i (pc := 94) dX11_move_94 cv_X11_293 sh_73 (r_holds_73 _ _) ⟨by decide, by decide⟩ rfl rfl (Nat.le_of_ble_eq_true rfl) ?_
              refine gq_if_ne (pc := 97) 106 dX11_move_97 (by decide) (fun h_97 => ?_) (fun h_97 => ?_)
              · refine gq_aload (pc := 106) dX11_move_106 rfl ?_
                refine gq_getr (pc := 108) dX11_move_108 fl_X11_297_7 sh_69 rfl ?_
                refine gq_iload_n (pc := 111) dX11_move_111 rfl ?_
                refine gq_aload (pc := 112) dX11_move_112 rfl ?_
                refine gq_getr (pc := 114) dX11_move_114 fl_X11_297_7 sh_73 rfl ?_
                refine gq_iload (pc := 117) dX11_move_117 rfl ?_
                refine gq_iload (pc := 119) dX11_move_119 rfl ?_
                refine kq_copy (pw := 25) (pc := 121) (by decide) (by decide) dX11_move_121 cc_X11_306 sh_70 sh_74 ea eb em q1 q2 (by decide) (by decide) (by decide) (Nat.le_of_ble_eq_true rfl) ?_
                refine gq_iload (pc := 124) dX11_move_124 rfl ?_
                exact gq_iret (pc := 126) rfl dX11_move_126 ⟨rfl, rfl⟩
              · exact absurd h_97 h5
          · exact absurd h3 h_68
        · exact absurd h_49 h2
    · exact absurd (show p_nt (p_in 3 0 3) = 0 by decide) h_11
set_option maxHeartbeats 400000 in
theorem c_move_no_2_0 {i j n : Int32} (h : g 71 2 = 0 ∨ g 67 2 = 0) : ge_N X ge_SH YX11_move 2 [.ref (ge_ad X.1 0), .int 2, .int i, .int 0, .int j, .int n] (ge_k g 25 r x hb) (some (.int (-1000000000 - 2))) (ge_k (ge_up g 75 2 (g 75 2 + 1)) 25 r x hb) := by
  refine gq_ofB (l := [(0, .ref (ge_ad X.1 0)), (1, .int 2), (2, .int i), (3, .int 0), (4, .int j), (5, .int n)]) (by decide) (Nat.le_of_ble_eq_true rfl) rfl ?_
  refine gq_iload_n (pc := 0) dX11_move_0 rfl ?_
  refine gq_rS1i (pc := 1) dX11_move_1 cs_X11_232 (c_noSheet _) ⟨by decide, by decide⟩ (Nat.le_of_ble_eq_true rfl) ?_
  refine gq_if_ne (pc := 4) 14 dX11_move_4 (by decide) (fun h_4 => ?_) (fun h_4 => ?_)
  · exact absurd h_4 (by decide)
  · refine gq_iload_n (pc := 7) dX11_move_7 rfl ?_
    refine gq_rS1i (pc := 8) dX11_move_8 cs_X11_232 (c_noSheet _) ⟨by decide, by decide⟩ (Nat.le_of_ble_eq_true rfl) ?_
    refine gq_if_eq (pc := 11) 20 dX11_move_11 (by decide) (fun h_11 => ?_) (fun h_11 => ?_)
    · refine gq_aload_n (pc := 20) dX11_move_20 rfl ?_
      refine gq_getr (pc := 21) dX11_move_21 fl_X11_89_11 sh_0 rfl ?_
      refine gq_iload_n (pc := 24) dX11_move_24 rfl ?_
      refine gq_aald (pc := 25) dX11_move_25 sh_66 rfl kl_2 rfl (by decide) ?_
      refine gq_astore (pc := 26) (l' := [(6, _), (0, _), (1, _), (2, _), (3, _), (4, _), (5, _)]) dX11_move_26 (by decide) rfl ?_
      refine gq_aload_n (pc := 28) dX11_move_28 rfl ?_
      refine gq_getr (pc := 29) dX11_move_29 fl_X11_89_11 sh_0 rfl ?_
      refine gq_iload_n (pc := 32) dX11_move_32 rfl ?_
      refine gq_aald (pc := 33) dX11_move_33 sh_66 rfl kl_0 rfl (by decide) ?_
      refine gq_astore (pc := 34) (l' := [(7, _), (6, _), (0, _), (1, _), (2, _), (3, _), (4, _), (5, _)]) dX11_move_34 (by decide) rfl ?_
      refine gq_aload (pc := 36) dX11_move_36 rfl ?_
      refine kq_geto (pw := 25) (pc := 38) (by decide) dX11_move_38 fl_X11_235_7 sh_71 rfl (by unfold ge_Z; omega) ?_
      refine gq_if_eq (pc := 41) 52 dX11_move_41 (by decide) (fun h_41 => ?_) (fun h_41 => ?_)
      · refine gq_aload_n (pc := 52) dX11_move_52 rfl ?_
        refine gq_iconst (pc := 53) dX11_move_53 kc_2 ?_
        refine gq_rV1i (pc := 54) dX11_move_54 cv_X11_109 sh_0 (c_error kl_2 (by decide)) ⟨by decide, by decide⟩ rfl rfl (Nat.le_of_ble_eq_true rfl) ?_
        exact gq_iret (pc := 57) rfl dX11_move_57 ⟨rfl, rfl⟩
      · refine gq_aload (pc := 44) dX11_move_44 rfl ?_
        refine kq_geto (pw := 25) (pc := 46) (by decide) dX11_move_46 fl_X11_235_7 sh_67 rfl (by unfold ge_Z; omega) ?_
        refine gq_if_ne (pc := 49) 58 dX11_move_49 (by decide) (fun h_49 => ?_) (fun h_49 => ?_)
        · exact (h.elim h_41 h_49).elim
        · refine gq_aload_n (pc := 52) dX11_move_52 rfl ?_
          refine gq_iconst (pc := 53) dX11_move_53 kc_2 ?_
          refine gq_rV1i (pc := 54) dX11_move_54 cv_X11_109 sh_0 (c_error kl_2 (by decide)) ⟨by decide, by decide⟩ rfl rfl (Nat.le_of_ble_eq_true rfl) ?_
          exact gq_iret (pc := 57) rfl dX11_move_57 ⟨rfl, rfl⟩
    · exact absurd (show p_nt (p_in 0 0 3) = 0 by decide) h_11
set_option maxHeartbeats 400000 in
theorem c_move_ki_2_0 {i j n : Int32} (h1 : ¬ g 71 2 = 0) (h2 : ¬ g 67 2 = 0) (h3 : ¬ g 71 2 = g 67 2) : ge_N X ge_SH YX11_move 2 [.ref (ge_ad X.1 0), .int 2, .int i, .int 0, .int j, .int n] (ge_k g 25 r x hb) (some (.int (-1000000000 - 5))) (ge_k (ge_up g 75 5 (g 75 5 + 1)) 25 r x hb) := by
  refine gq_ofB (l := [(0, .ref (ge_ad X.1 0)), (1, .int 2), (2, .int i), (3, .int 0), (4, .int j), (5, .int n)]) (by decide) (Nat.le_of_ble_eq_true rfl) rfl ?_
  refine gq_iload_n (pc := 0) dX11_move_0 rfl ?_
  refine gq_rS1i (pc := 1) dX11_move_1 cs_X11_232 (c_noSheet _) ⟨by decide, by decide⟩ (Nat.le_of_ble_eq_true rfl) ?_
  refine gq_if_ne (pc := 4) 14 dX11_move_4 (by decide) (fun h_4 => ?_) (fun h_4 => ?_)
  · exact absurd h_4 (by decide)
  · refine gq_iload_n (pc := 7) dX11_move_7 rfl ?_
    refine gq_rS1i (pc := 8) dX11_move_8 cs_X11_232 (c_noSheet _) ⟨by decide, by decide⟩ (Nat.le_of_ble_eq_true rfl) ?_
    refine gq_if_eq (pc := 11) 20 dX11_move_11 (by decide) (fun h_11 => ?_) (fun h_11 => ?_)
    · refine gq_aload_n (pc := 20) dX11_move_20 rfl ?_
      refine gq_getr (pc := 21) dX11_move_21 fl_X11_89_11 sh_0 rfl ?_
      refine gq_iload_n (pc := 24) dX11_move_24 rfl ?_
      refine gq_aald (pc := 25) dX11_move_25 sh_66 rfl kl_2 rfl (by decide) ?_
      refine gq_astore (pc := 26) (l' := [(6, _), (0, _), (1, _), (2, _), (3, _), (4, _), (5, _)]) dX11_move_26 (by decide) rfl ?_
      refine gq_aload_n (pc := 28) dX11_move_28 rfl ?_
      refine gq_getr (pc := 29) dX11_move_29 fl_X11_89_11 sh_0 rfl ?_
      refine gq_iload_n (pc := 32) dX11_move_32 rfl ?_
      refine gq_aald (pc := 33) dX11_move_33 sh_66 rfl kl_0 rfl (by decide) ?_
      refine gq_astore (pc := 34) (l' := [(7, _), (6, _), (0, _), (1, _), (2, _), (3, _), (4, _), (5, _)]) dX11_move_34 (by decide) rfl ?_
      refine gq_aload (pc := 36) dX11_move_36 rfl ?_
      refine kq_geto (pw := 25) (pc := 38) (by decide) dX11_move_38 fl_X11_235_7 sh_71 rfl (by unfold ge_Z; omega) ?_
      refine gq_if_eq (pc := 41) 52 dX11_move_41 (by decide) (fun h_41 => ?_) (fun h_41 => ?_)
      · exact absurd h_41 h1
      · refine gq_aload (pc := 44) dX11_move_44 rfl ?_
        refine kq_geto (pw := 25) (pc := 46) (by decide) dX11_move_46 fl_X11_235_7 sh_67 rfl (by unfold ge_Z; omega) ?_
        refine gq_if_ne (pc := 49) 58 dX11_move_49 (by decide) (fun h_49 => ?_) (fun h_49 => ?_)
        · refine gq_aload (pc := 58) dX11_move_58 rfl ?_
          refine kq_geto (pw := 25) (pc := 60) (by decide) dX11_move_60 fl_X11_235_7 sh_71 rfl (by unfold ge_Z; omega) ?_
          refine gq_aload (pc := 63) dX11_move_63 rfl ?_
          refine kq_geto (pw := 25) (pc := 65) (by decide) dX11_move_65 fl_X11_235_7 sh_67 rfl (by unfold ge_Z; omega) ?_
          refine gq_ic_eq (pc := 68) 77 dX11_move_68 (by decide) (fun h_68 => ?_) (fun h_68 => ?_)
          · exact absurd h_68 h3
          · refine gq_aload_n (pc := 71) dX11_move_71 rfl ?_
            refine gq_iconst (pc := 72) dX11_move_72 kc_5 ?_
            refine gq_rV1i (pc := 73) dX11_move_73 cv_X11_109 sh_0 (c_error kl_5 (by decide)) ⟨by decide, by decide⟩ rfl rfl (Nat.le_of_ble_eq_true rfl) ?_
            exact gq_iret (pc := 76) rfl dX11_move_76 ⟨rfl, rfl⟩
        · exact absurd h_49 h2
    · exact absurd (show p_nt (p_in 0 0 3) = 0 by decide) h_11
set_option maxHeartbeats 400000 in
theorem c_move_er2_2_0 {i j n : Int32} (h1 : ¬ g 71 2 = 0) (h2 : ¬ g 67 2 = 0) (h3 : g 71 2 = g 67 2) (h4 : p_hold (g 71 1) i n = 0 ∨ p_hold (g 67 1) j n = 0) : ge_N X ge_SH YX11_move 2 [.ref (ge_ad X.1 0), .int 2, .int i, .int 0, .int j, .int n] (ge_k g 25 r x hb) (some (.int (-1000000000 - 1))) (ge_k (ge_up g 75 1 (g 75 1 + 1)) 25 r x hb) := by
  refine gq_ofB (l := [(0, .ref (ge_ad X.1 0)), (1, .int 2), (2, .int i), (3, .int 0), (4, .int j), (5, .int n)]) (by decide) (Nat.le_of_ble_eq_true rfl) rfl ?_
  refine gq_iload_n (pc := 0) dX11_move_0 rfl ?_
  refine gq_rS1i (pc := 1) dX11_move_1 cs_X11_232 (c_noSheet _) ⟨by decide, by decide⟩ (Nat.le_of_ble_eq_true rfl) ?_
  refine gq_if_ne (pc := 4) 14 dX11_move_4 (by decide) (fun h_4 => ?_) (fun h_4 => ?_)
  · exact absurd h_4 (by decide)
  · refine gq_iload_n (pc := 7) dX11_move_7 rfl ?_
    refine gq_rS1i (pc := 8) dX11_move_8 cs_X11_232 (c_noSheet _) ⟨by decide, by decide⟩ (Nat.le_of_ble_eq_true rfl) ?_
    refine gq_if_eq (pc := 11) 20 dX11_move_11 (by decide) (fun h_11 => ?_) (fun h_11 => ?_)
    · refine gq_aload_n (pc := 20) dX11_move_20 rfl ?_
      refine gq_getr (pc := 21) dX11_move_21 fl_X11_89_11 sh_0 rfl ?_
      refine gq_iload_n (pc := 24) dX11_move_24 rfl ?_
      refine gq_aald (pc := 25) dX11_move_25 sh_66 rfl kl_2 rfl (by decide) ?_
      refine gq_astore (pc := 26) (l' := [(6, _), (0, _), (1, _), (2, _), (3, _), (4, _), (5, _)]) dX11_move_26 (by decide) rfl ?_
      refine gq_aload_n (pc := 28) dX11_move_28 rfl ?_
      refine gq_getr (pc := 29) dX11_move_29 fl_X11_89_11 sh_0 rfl ?_
      refine gq_iload_n (pc := 32) dX11_move_32 rfl ?_
      refine gq_aald (pc := 33) dX11_move_33 sh_66 rfl kl_0 rfl (by decide) ?_
      refine gq_astore (pc := 34) (l' := [(7, _), (6, _), (0, _), (1, _), (2, _), (3, _), (4, _), (5, _)]) dX11_move_34 (by decide) rfl ?_
      refine gq_aload (pc := 36) dX11_move_36 rfl ?_
      refine kq_geto (pw := 25) (pc := 38) (by decide) dX11_move_38 fl_X11_235_7 sh_71 rfl (by unfold ge_Z; omega) ?_
      refine gq_if_eq (pc := 41) 52 dX11_move_41 (by decide) (fun h_41 => ?_) (fun h_41 => ?_)
      · exact absurd h_41 h1
      · refine gq_aload (pc := 44) dX11_move_44 rfl ?_
        refine kq_geto (pw := 25) (pc := 46) (by decide) dX11_move_46 fl_X11_235_7 sh_67 rfl (by unfold ge_Z; omega) ?_
        refine gq_if_ne (pc := 49) 58 dX11_move_49 (by decide) (fun h_49 => ?_) (fun h_49 => ?_)
        · refine gq_aload (pc := 58) dX11_move_58 rfl ?_
          refine kq_geto (pw := 25) (pc := 60) (by decide) dX11_move_60 fl_X11_235_7 sh_71 rfl (by unfold ge_Z; omega) ?_
          refine gq_aload (pc := 63) dX11_move_63 rfl ?_
          refine kq_geto (pw := 25) (pc := 65) (by decide) dX11_move_65 fl_X11_235_7 sh_67 rfl (by unfold ge_Z; omega) ?_
          refine gq_ic_eq (pc := 68) 77 dX11_move_68 (by decide) (fun h_68 => ?_) (fun h_68 => ?_)
          · refine gq_aload (pc := 77) dX11_move_77 rfl ?_
            refine gq_iload_n (pc := 79) dX11_move_79 rfl ?_
            refine gq_iload (pc := 80) dX11_move_80 rfl ?_
            refine gq_rV2i (pc := 82) dX11_move_82 cv_X11_293 sh_71 (r_holds_71 _ _) ⟨by decide, by decide⟩ rfl rfl (Nat.le_of_ble_eq_true rfl) ?_
            refine gq_if_eq (pc := 85) 100 dX11_move_85 (by decide) (fun h_85 => ?_) (fun h_85 => ?_)
            · refine gq_aload_n (pc := 100) dX11_move_100 rfl ?_
              refine gq_iconst (pc := 101) dX11_move_101 kc_1 ?_
              refine gq_rV1i (pc := 102) dX11_move_102 cv_X11_109 sh_0 (c_error kl_1 (by decide)) ⟨by decide, by decide⟩ rfl rfl (Nat.le_of_ble_eq_true rfl) ?_
              exact gq_iret (pc := 105) rfl dX11_move_105 ⟨rfl, rfl⟩
            · refine gq_aload (pc := 88) dX11_move_88 rfl ?_
              refine gq_iload (pc := 90) dX11_move_90 rfl ?_
              refine gq_iload (pc := 92) dX11_move_92 rfl ?_
              refine gq_rV2i (pc := 94) dX11_move_94 cv_X11_293 sh_67 (r_holds_67 _ _) ⟨by decide, by decide⟩ rfl rfl (Nat.le_of_ble_eq_true rfl) ?_
              refine gq_if_ne (pc := 97) 106 dX11_move_97 (by decide) (fun h_97 => ?_) (fun h_97 => ?_)
              · exact (h4.elim h_85 h_97).elim
              · refine gq_aload_n (pc := 100) dX11_move_100 rfl ?_
                refine gq_iconst (pc := 101) dX11_move_101 kc_1 ?_
                refine gq_rV1i (pc := 102) dX11_move_102 cv_X11_109 sh_0 (c_error kl_1 (by decide)) ⟨by decide, by decide⟩ rfl rfl (Nat.le_of_ble_eq_true rfl) ?_
                exact gq_iret (pc := 105) rfl dX11_move_105 ⟨rfl, rfl⟩
          · exact absurd h3 h_68
        · exact absurd h_49 h2
    · exact absurd (show p_nt (p_in 0 0 3) = 0 by decide) h_11
set_option maxHeartbeats 400000 in
theorem c_move_ok_2_0 {i j n : Int32} (h1 : ¬ g 71 2 = 0) (h2 : ¬ g 67 2 = 0) (h3 : g 71 2 = g 67 2) (h4 : ¬ p_hold (g 71 1) i n = 0) (h5 : ¬ p_hold (g 67 1) j n = 0) {a b m : Nat} (ea : i = nI a) (eb : j = nI b) (em : n = nI m) (q1 : a + m ≤ 40) (q2 : b + m ≤ 40) : ge_N X ge_SH YX11_move 2 [.ref (ge_ad X.1 0), .int 2, .int i, .int 0, .int j, .int n] (ge_k g 25 r x hb) (some (.int n)) (ge_k (ge_row g 68 (va_cpy (g 72) (g 68) a b m)) 25 r x hb) := by
  refine gq_ofB (l := [(0, .ref (ge_ad X.1 0)), (1, .int 2), (2, .int i), (3, .int 0), (4, .int j), (5, .int n)]) (by decide) (Nat.le_of_ble_eq_true rfl) rfl ?_
  refine gq_iload_n (pc := 0) dX11_move_0 rfl ?_
  refine gq_rS1i (pc := 1) dX11_move_1 cs_X11_232 (c_noSheet _) ⟨by decide, by decide⟩ (Nat.le_of_ble_eq_true rfl) ?_
  refine gq_if_ne (pc := 4) 14 dX11_move_4 (by decide) (fun h_4 => ?_) (fun h_4 => ?_)
  · exact absurd h_4 (by decide)
  · refine gq_iload_n (pc := 7) dX11_move_7 rfl ?_
    refine gq_rS1i (pc := 8) dX11_move_8 cs_X11_232 (c_noSheet _) ⟨by decide, by decide⟩ (Nat.le_of_ble_eq_true rfl) ?_
    refine gq_if_eq (pc := 11) 20 dX11_move_11 (by decide) (fun h_11 => ?_) (fun h_11 => ?_)
    · refine gq_aload_n (pc := 20) dX11_move_20 rfl ?_
      refine gq_getr (pc := 21) dX11_move_21 fl_X11_89_11 sh_0 rfl ?_
      refine gq_iload_n (pc := 24) dX11_move_24 rfl ?_
      refine gq_aald (pc := 25) dX11_move_25 sh_66 rfl kl_2 rfl (by decide) ?_
      refine gq_astore (pc := 26) (l' := [(6, _), (0, _), (1, _), (2, _), (3, _), (4, _), (5, _)]) dX11_move_26 (by decide) rfl ?_
      refine gq_aload_n (pc := 28) dX11_move_28 rfl ?_
      refine gq_getr (pc := 29) dX11_move_29 fl_X11_89_11 sh_0 rfl ?_
      refine gq_iload_n (pc := 32) dX11_move_32 rfl ?_
      refine gq_aald (pc := 33) dX11_move_33 sh_66 rfl kl_0 rfl (by decide) ?_
      refine gq_astore (pc := 34) (l' := [(7, _), (6, _), (0, _), (1, _), (2, _), (3, _), (4, _), (5, _)]) dX11_move_34 (by decide) rfl ?_
      refine gq_aload (pc := 36) dX11_move_36 rfl ?_
      refine kq_geto (pw := 25) (pc := 38) (by decide) dX11_move_38 fl_X11_235_7 sh_71 rfl (by unfold ge_Z; omega) ?_
      refine gq_if_eq (pc := 41) 52 dX11_move_41 (by decide) (fun h_41 => ?_) (fun h_41 => ?_)
      · exact absurd h_41 h1
      · refine gq_aload (pc := 44) dX11_move_44 rfl ?_
        refine kq_geto (pw := 25) (pc := 46) (by decide) dX11_move_46 fl_X11_235_7 sh_67 rfl (by unfold ge_Z; omega) ?_
        refine gq_if_ne (pc := 49) 58 dX11_move_49 (by decide) (fun h_49 => ?_) (fun h_49 => ?_)
        · refine gq_aload (pc := 58) dX11_move_58 rfl ?_
          refine kq_geto (pw := 25) (pc := 60) (by decide) dX11_move_60 fl_X11_235_7 sh_71 rfl (by unfold ge_Z; omega) ?_
          refine gq_aload (pc := 63) dX11_move_63 rfl ?_
          refine kq_geto (pw := 25) (pc := 65) (by decide) dX11_move_65 fl_X11_235_7 sh_67 rfl (by unfold ge_Z; omega) ?_
          refine gq_ic_eq (pc := 68) 77 dX11_move_68 (by decide) (fun h_68 => ?_) (fun h_68 => ?_)
          · refine gq_aload (pc := 77) dX11_move_77 rfl ?_
            refine gq_iload_n (pc := 79) dX11_move_79 rfl ?_
            refine gq_iload (pc := 80) dX11_move_80 rfl ?_
            refine gq_rV2i (pc := 82) dX11_move_82 cv_X11_293 sh_71 (r_holds_71 _ _) ⟨by decide, by decide⟩ rfl rfl (Nat.le_of_ble_eq_true rfl) ?_
            refine gq_if_eq (pc := 85) 100 dX11_move_85 (by decide) (fun h_85 => ?_) (fun h_85 => ?_)
            · exact absurd h_85 h4
            · refine gq_aload (pc := 88) dX11_move_88 rfl ?_
              refine gq_iload (pc := 90) dX11_move_90 rfl ?_
              refine gq_iload (pc := 92) dX11_move_92 rfl ?_
              refine gq_rV2i (pc := 94) dX11_move_94 cv_X11_293 sh_67 (r_holds_67 _ _) ⟨by decide, by decide⟩ rfl rfl (Nat.le_of_ble_eq_true rfl) ?_
              refine gq_if_ne (pc := 97) 106 dX11_move_97 (by decide) (fun h_97 => ?_) (fun h_97 => ?_)
              · refine gq_aload (pc := 106) dX11_move_106 rfl ?_
                refine gq_getr (pc := 108) dX11_move_108 fl_X11_297_7 sh_71 rfl ?_
                refine gq_iload_n (pc := 111) dX11_move_111 rfl ?_
                refine gq_aload (pc := 112) dX11_move_112 rfl ?_
                refine gq_getr (pc := 114) dX11_move_114 fl_X11_297_7 sh_67 rfl ?_
                refine gq_iload (pc := 117) dX11_move_117 rfl ?_
                refine gq_iload (pc := 119) dX11_move_119 rfl ?_
                refine kq_copy (pw := 25) (pc := 121) (by decide) (by decide) dX11_move_121 cc_X11_306 sh_72 sh_68 ea eb em q1 q2 (by decide) (by decide) (by decide) (Nat.le_of_ble_eq_true rfl) ?_
                refine gq_iload (pc := 124) dX11_move_124 rfl ?_
                exact gq_iret (pc := 126) rfl dX11_move_126 ⟨rfl, rfl⟩
              · exact absurd h_97 h5
          · exact absurd h3 h_68
        · exact absurd h_49 h2
    · exact absurd (show p_nt (p_in 0 0 3) = 0 by decide) h_11
set_option maxHeartbeats 400000 in
theorem c_move_no_2_1 {i j n : Int32} (h : g 71 2 = 0 ∨ g 69 2 = 0) : ge_N X ge_SH YX11_move 2 [.ref (ge_ad X.1 0), .int 2, .int i, .int 1, .int j, .int n] (ge_k g 25 r x hb) (some (.int (-1000000000 - 2))) (ge_k (ge_up g 75 2 (g 75 2 + 1)) 25 r x hb) := by
  refine gq_ofB (l := [(0, .ref (ge_ad X.1 0)), (1, .int 2), (2, .int i), (3, .int 1), (4, .int j), (5, .int n)]) (by decide) (Nat.le_of_ble_eq_true rfl) rfl ?_
  refine gq_iload_n (pc := 0) dX11_move_0 rfl ?_
  refine gq_rS1i (pc := 1) dX11_move_1 cs_X11_232 (c_noSheet _) ⟨by decide, by decide⟩ (Nat.le_of_ble_eq_true rfl) ?_
  refine gq_if_ne (pc := 4) 14 dX11_move_4 (by decide) (fun h_4 => ?_) (fun h_4 => ?_)
  · exact absurd h_4 (by decide)
  · refine gq_iload_n (pc := 7) dX11_move_7 rfl ?_
    refine gq_rS1i (pc := 8) dX11_move_8 cs_X11_232 (c_noSheet _) ⟨by decide, by decide⟩ (Nat.le_of_ble_eq_true rfl) ?_
    refine gq_if_eq (pc := 11) 20 dX11_move_11 (by decide) (fun h_11 => ?_) (fun h_11 => ?_)
    · refine gq_aload_n (pc := 20) dX11_move_20 rfl ?_
      refine gq_getr (pc := 21) dX11_move_21 fl_X11_89_11 sh_0 rfl ?_
      refine gq_iload_n (pc := 24) dX11_move_24 rfl ?_
      refine gq_aald (pc := 25) dX11_move_25 sh_66 rfl kl_2 rfl (by decide) ?_
      refine gq_astore (pc := 26) (l' := [(6, _), (0, _), (1, _), (2, _), (3, _), (4, _), (5, _)]) dX11_move_26 (by decide) rfl ?_
      refine gq_aload_n (pc := 28) dX11_move_28 rfl ?_
      refine gq_getr (pc := 29) dX11_move_29 fl_X11_89_11 sh_0 rfl ?_
      refine gq_iload_n (pc := 32) dX11_move_32 rfl ?_
      refine gq_aald (pc := 33) dX11_move_33 sh_66 rfl kl_1 rfl (by decide) ?_
      refine gq_astore (pc := 34) (l' := [(7, _), (6, _), (0, _), (1, _), (2, _), (3, _), (4, _), (5, _)]) dX11_move_34 (by decide) rfl ?_
      refine gq_aload (pc := 36) dX11_move_36 rfl ?_
      refine kq_geto (pw := 25) (pc := 38) (by decide) dX11_move_38 fl_X11_235_7 sh_71 rfl (by unfold ge_Z; omega) ?_
      refine gq_if_eq (pc := 41) 52 dX11_move_41 (by decide) (fun h_41 => ?_) (fun h_41 => ?_)
      · refine gq_aload_n (pc := 52) dX11_move_52 rfl ?_
        refine gq_iconst (pc := 53) dX11_move_53 kc_2 ?_
        refine gq_rV1i (pc := 54) dX11_move_54 cv_X11_109 sh_0 (c_error kl_2 (by decide)) ⟨by decide, by decide⟩ rfl rfl (Nat.le_of_ble_eq_true rfl) ?_
        exact gq_iret (pc := 57) rfl dX11_move_57 ⟨rfl, rfl⟩
      · refine gq_aload (pc := 44) dX11_move_44 rfl ?_
        refine kq_geto (pw := 25) (pc := 46) (by decide) dX11_move_46 fl_X11_235_7 sh_69 rfl (by unfold ge_Z; omega) ?_
        refine gq_if_ne (pc := 49) 58 dX11_move_49 (by decide) (fun h_49 => ?_) (fun h_49 => ?_)
        · exact (h.elim h_41 h_49).elim
        · refine gq_aload_n (pc := 52) dX11_move_52 rfl ?_
          refine gq_iconst (pc := 53) dX11_move_53 kc_2 ?_
          refine gq_rV1i (pc := 54) dX11_move_54 cv_X11_109 sh_0 (c_error kl_2 (by decide)) ⟨by decide, by decide⟩ rfl rfl (Nat.le_of_ble_eq_true rfl) ?_
          exact gq_iret (pc := 57) rfl dX11_move_57 ⟨rfl, rfl⟩
    · exact absurd (show p_nt (p_in 1 0 3) = 0 by decide) h_11
set_option maxHeartbeats 400000 in
theorem c_move_ki_2_1 {i j n : Int32} (h1 : ¬ g 71 2 = 0) (h2 : ¬ g 69 2 = 0) (h3 : ¬ g 71 2 = g 69 2) : ge_N X ge_SH YX11_move 2 [.ref (ge_ad X.1 0), .int 2, .int i, .int 1, .int j, .int n] (ge_k g 25 r x hb) (some (.int (-1000000000 - 5))) (ge_k (ge_up g 75 5 (g 75 5 + 1)) 25 r x hb) := by
  refine gq_ofB (l := [(0, .ref (ge_ad X.1 0)), (1, .int 2), (2, .int i), (3, .int 1), (4, .int j), (5, .int n)]) (by decide) (Nat.le_of_ble_eq_true rfl) rfl ?_
  refine gq_iload_n (pc := 0) dX11_move_0 rfl ?_
  refine gq_rS1i (pc := 1) dX11_move_1 cs_X11_232 (c_noSheet _) ⟨by decide, by decide⟩ (Nat.le_of_ble_eq_true rfl) ?_
  refine gq_if_ne (pc := 4) 14 dX11_move_4 (by decide) (fun h_4 => ?_) (fun h_4 => ?_)
  · exact absurd h_4 (by decide)
  · refine gq_iload_n (pc := 7) dX11_move_7 rfl ?_
    refine gq_rS1i (pc := 8) dX11_move_8 cs_X11_232 (c_noSheet _) ⟨by decide, by decide⟩ (Nat.le_of_ble_eq_true rfl) ?_
    refine gq_if_eq (pc := 11) 20 dX11_move_11 (by decide) (fun h_11 => ?_) (fun h_11 => ?_)
    · refine gq_aload_n (pc := 20) dX11_move_20 rfl ?_
      refine gq_getr (pc := 21) dX11_move_21 fl_X11_89_11 sh_0 rfl ?_
      refine gq_iload_n (pc := 24) dX11_move_24 rfl ?_
      refine gq_aald (pc := 25) dX11_move_25 sh_66 rfl kl_2 rfl (by decide) ?_
      refine gq_astore (pc := 26) (l' := [(6, _), (0, _), (1, _), (2, _), (3, _), (4, _), (5, _)]) dX11_move_26 (by decide) rfl ?_
      refine gq_aload_n (pc := 28) dX11_move_28 rfl ?_
      refine gq_getr (pc := 29) dX11_move_29 fl_X11_89_11 sh_0 rfl ?_
      refine gq_iload_n (pc := 32) dX11_move_32 rfl ?_
      refine gq_aald (pc := 33) dX11_move_33 sh_66 rfl kl_1 rfl (by decide) ?_
      refine gq_astore (pc := 34) (l' := [(7, _), (6, _), (0, _), (1, _), (2, _), (3, _), (4, _), (5, _)]) dX11_move_34 (by decide) rfl ?_
      refine gq_aload (pc := 36) dX11_move_36 rfl ?_
      refine kq_geto (pw := 25) (pc := 38) (by decide) dX11_move_38 fl_X11_235_7 sh_71 rfl (by unfold ge_Z; omega) ?_
      refine gq_if_eq (pc := 41) 52 dX11_move_41 (by decide) (fun h_41 => ?_) (fun h_41 => ?_)
      · exact absurd h_41 h1
      · refine gq_aload (pc := 44) dX11_move_44 rfl ?_
        refine kq_geto (pw := 25) (pc := 46) (by decide) dX11_move_46 fl_X11_235_7 sh_69 rfl (by unfold ge_Z; omega) ?_
        refine gq_if_ne (pc := 49) 58 dX11_move_49 (by decide) (fun h_49 => ?_) (fun h_49 => ?_)
        · refine gq_aload (pc := 58) dX11_move_58 rfl ?_
          refine kq_geto (pw := 25) (pc := 60) (by decide) dX11_move_60 fl_X11_235_7 sh_71 rfl (by unfold ge_Z; omega) ?_
          refine gq_aload (pc := 63) dX11_move_63 rfl ?_
          refine kq_geto (pw := 25) (pc := 65) (by decide) dX11_move_65 fl_X11_235_7 sh_69 rfl (by unfold ge_Z; omega) ?_
          refine gq_ic_eq (pc := 68) 77 dX11_move_68 (by decide) (fun h_68 => ?_) (fun h_68 => ?_)
          · exact absurd h_68 h3
          · refine gq_aload_n (pc := 71) dX11_move_71 rfl ?_
            refine gq_iconst (pc := 72) dX11_move_72 kc_5 ?_
            refine gq_rV1i (pc := 73) dX11_move_73 cv_X11_109 sh_0 (c_error kl_5 (by decide)) ⟨by decide, by decide⟩ rfl rfl (Nat.le_of_ble_eq_true rfl) ?_
            exact gq_iret (pc := 76) rfl dX11_move_76 ⟨rfl, rfl⟩
        · exact absurd h_49 h2
    · exact absurd (show p_nt (p_in 1 0 3) = 0 by decide) h_11
set_option maxHeartbeats 400000 in
theorem c_move_er2_2_1 {i j n : Int32} (h1 : ¬ g 71 2 = 0) (h2 : ¬ g 69 2 = 0) (h3 : g 71 2 = g 69 2) (h4 : p_hold (g 71 1) i n = 0 ∨ p_hold (g 69 1) j n = 0) : ge_N X ge_SH YX11_move 2 [.ref (ge_ad X.1 0), .int 2, .int i, .int 1, .int j, .int n] (ge_k g 25 r x hb) (some (.int (-1000000000 - 1))) (ge_k (ge_up g 75 1 (g 75 1 + 1)) 25 r x hb) := by
  refine gq_ofB (l := [(0, .ref (ge_ad X.1 0)), (1, .int 2), (2, .int i), (3, .int 1), (4, .int j), (5, .int n)]) (by decide) (Nat.le_of_ble_eq_true rfl) rfl ?_
  refine gq_iload_n (pc := 0) dX11_move_0 rfl ?_
  refine gq_rS1i (pc := 1) dX11_move_1 cs_X11_232 (c_noSheet _) ⟨by decide, by decide⟩ (Nat.le_of_ble_eq_true rfl) ?_
  refine gq_if_ne (pc := 4) 14 dX11_move_4 (by decide) (fun h_4 => ?_) (fun h_4 => ?_)
  · exact absurd h_4 (by decide)
  · refine gq_iload_n (pc := 7) dX11_move_7 rfl ?_
    refine gq_rS1i (pc := 8) dX11_move_8 cs_X11_232 (c_noSheet _) ⟨by decide, by decide⟩ (Nat.le_of_ble_eq_true rfl) ?_
    refine gq_if_eq (pc := 11) 20 dX11_move_11 (by decide) (fun h_11 => ?_) (fun h_11 => ?_)
    · refine gq_aload_n (pc := 20) dX11_move_20 rfl ?_
      refine gq_getr (pc := 21) dX11_move_21 fl_X11_89_11 sh_0 rfl ?_
      refine gq_iload_n (pc := 24) dX11_move_24 rfl ?_
      refine gq_aald (pc := 25) dX11_move_25 sh_66 rfl kl_2 rfl (by decide) ?_
      refine gq_astore (pc := 26) (l' := [(6, _), (0, _), (1, _), (2, _), (3, _), (4, _), (5, _)]) dX11_move_26 (by decide) rfl ?_
      refine gq_aload_n (pc := 28) dX11_move_28 rfl ?_
      refine gq_getr (pc := 29) dX11_move_29 fl_X11_89_11 sh_0 rfl ?_
      refine gq_iload_n (pc := 32) dX11_move_32 rfl ?_
      refine gq_aald (pc := 33) dX11_move_33 sh_66 rfl kl_1 rfl (by decide) ?_
      refine gq_astore (pc := 34) (l' := [(7, _), (6, _), (0, _), (1, _), (2, _), (3, _), (4, _), (5, _)]) dX11_move_34 (by decide) rfl ?_
      refine gq_aload (pc := 36) dX11_move_36 rfl ?_
      refine kq_geto (pw := 25) (pc := 38) (by decide) dX11_move_38 fl_X11_235_7 sh_71 rfl (by unfold ge_Z; omega) ?_
      refine gq_if_eq (pc := 41) 52 dX11_move_41 (by decide) (fun h_41 => ?_) (fun h_41 => ?_)
      · exact absurd h_41 h1
      · refine gq_aload (pc := 44) dX11_move_44 rfl ?_
        refine kq_geto (pw := 25) (pc := 46) (by decide) dX11_move_46 fl_X11_235_7 sh_69 rfl (by unfold ge_Z; omega) ?_
        refine gq_if_ne (pc := 49) 58 dX11_move_49 (by decide) (fun h_49 => ?_) (fun h_49 => ?_)
        · refine gq_aload (pc := 58) dX11_move_58 rfl ?_
          refine kq_geto (pw := 25) (pc := 60) (by decide) dX11_move_60 fl_X11_235_7 sh_71 rfl (by unfold ge_Z; omega) ?_
          refine gq_aload (pc := 63) dX11_move_63 rfl ?_
          refine kq_geto (pw := 25) (pc := 65) (by decide) dX11_move_65 fl_X11_235_7 sh_69 rfl (by unfold ge_Z; omega) ?_
          refine gq_ic_eq (pc := 68) 77 dX11_move_68 (by decide) (fun h_68 => ?_) (fun h_68 => ?_)
          · refine gq_aload (pc := 77) dX11_move_77 rfl ?_
            refine gq_iload_n (pc := 79) dX11_move_79 rfl ?_
            refine gq_iload (pc := 80) dX11_move_80 rfl ?_
            refine gq_rV2i (pc := 82) dX11_move_82 cv_X11_293 sh_71 (r_holds_71 _ _) ⟨by decide, by decide⟩ rfl rfl (Nat.le_of_ble_eq_true rfl) ?_
            refine gq_if_eq (pc := 85) 100 dX11_move_85 (by decide) (fun h_85 => ?_) (fun h_85 => ?_)
            · refine gq_aload_n (pc := 100) dX11_move_100 rfl ?_
              refine gq_iconst (pc := 101) dX11_move_101 kc_1 ?_
              refine gq_rV1i (pc := 102) dX11_move_102 cv_X11_109 sh_0 (c_error kl_1 (by decide)) ⟨by decide, by decide⟩ rfl rfl (Nat.le_of_ble_eq_true rfl) ?_
              exact gq_iret (pc := 105) rfl dX11_move_105 ⟨rfl, rfl⟩
            · refine gq_aload (pc := 88) dX11_move_88 rfl ?_
              refine gq_iload (pc := 90) dX11_move_90 rfl ?_
              refine gq_iload (pc := 92) dX11_move_92 rfl ?_
              refine gq_rV2i (pc := 94) dX11_move_94 cv_X11_293 sh_69 (r_holds_69 _ _) ⟨by decide, by decide⟩ rfl rfl (Nat.le_of_ble_eq_true rfl) ?_
              refine gq_if_ne (pc := 97) 106 dX11_move_97 (by decide) (fun h_97 => ?_) (fun h_97 => ?_)
              · exact (h4.elim h_85 h_97).elim
              · refine gq_aload_n (pc := 100) dX11_move_100 rfl ?_
                refine gq_iconst (pc := 101) dX11_move_101 kc_1 ?_
                refine gq_rV1i (pc := 102) dX11_move_102 cv_X11_109 sh_0 (c_error kl_1 (by decide)) ⟨by decide, by decide⟩ rfl rfl (Nat.le_of_ble_eq_true rfl) ?_
                exact gq_iret (pc := 105) rfl dX11_move_105 ⟨rfl, rfl⟩
          · exact absurd h3 h_68
        · exact absurd h_49 h2
    · exact absurd (show p_nt (p_in 1 0 3) = 0 by decide) h_11
set_option maxHeartbeats 400000 in
theorem c_move_ok_2_1 {i j n : Int32} (h1 : ¬ g 71 2 = 0) (h2 : ¬ g 69 2 = 0) (h3 : g 71 2 = g 69 2) (h4 : ¬ p_hold (g 71 1) i n = 0) (h5 : ¬ p_hold (g 69 1) j n = 0) {a b m : Nat} (ea : i = nI a) (eb : j = nI b) (em : n = nI m) (q1 : a + m ≤ 40) (q2 : b + m ≤ 40) : ge_N X ge_SH YX11_move 2 [.ref (ge_ad X.1 0), .int 2, .int i, .int 1, .int j, .int n] (ge_k g 25 r x hb) (some (.int n)) (ge_k (ge_row g 70 (va_cpy (g 72) (g 70) a b m)) 25 r x hb) := by
  refine gq_ofB (l := [(0, .ref (ge_ad X.1 0)), (1, .int 2), (2, .int i), (3, .int 1), (4, .int j), (5, .int n)]) (by decide) (Nat.le_of_ble_eq_true rfl) rfl ?_
  refine gq_iload_n (pc := 0) dX11_move_0 rfl ?_
  refine gq_rS1i (pc := 1) dX11_move_1 cs_X11_232 (c_noSheet _) ⟨by decide, by decide⟩ (Nat.le_of_ble_eq_true rfl) ?_
  refine gq_if_ne (pc := 4) 14 dX11_move_4 (by decide) (fun h_4 => ?_) (fun h_4 => ?_)
  · exact absurd h_4 (by decide)
  · refine gq_iload_n (pc := 7) dX11_move_7 rfl ?_
    refine gq_rS1i (pc := 8) dX11_move_8 cs_X11_232 (c_noSheet _) ⟨by decide, by decide⟩ (Nat.le_of_ble_eq_true rfl) ?_
    refine gq_if_eq (pc := 11) 20 dX11_move_11 (by decide) (fun h_11 => ?_) (fun h_11 => ?_)
    · refine gq_aload_n (pc := 20) dX11_move_20 rfl ?_
      refine gq_getr (pc := 21) dX11_move_21 fl_X11_89_11 sh_0 rfl ?_
      refine gq_iload_n (pc := 24) dX11_move_24 rfl ?_
      refine gq_aald (pc := 25) dX11_move_25 sh_66 rfl kl_2 rfl (by decide) ?_
      refine gq_astore (pc := 26) (l' := [(6, _), (0, _), (1, _), (2, _), (3, _), (4, _), (5, _)]) dX11_move_26 (by decide) rfl ?_
      refine gq_aload_n (pc := 28) dX11_move_28 rfl ?_
      refine gq_getr (pc := 29) dX11_move_29 fl_X11_89_11 sh_0 rfl ?_
      refine gq_iload_n (pc := 32) dX11_move_32 rfl ?_
      refine gq_aald (pc := 33) dX11_move_33 sh_66 rfl kl_1 rfl (by decide) ?_
      refine gq_astore (pc := 34) (l' := [(7, _), (6, _), (0, _), (1, _), (2, _), (3, _), (4, _), (5, _)]) dX11_move_34 (by decide) rfl ?_
      refine gq_aload (pc := 36) dX11_move_36 rfl ?_
      refine kq_geto (pw := 25) (pc := 38) (by decide) dX11_move_38 fl_X11_235_7 sh_71 rfl (by unfold ge_Z; omega) ?_
      refine gq_if_eq (pc := 41) 52 dX11_move_41 (by decide) (fun h_41 => ?_) (fun h_41 => ?_)
      · exact absurd h_41 h1
      · refine gq_aload (pc := 44) dX11_move_44 rfl ?_
        refine kq_geto (pw := 25) (pc := 46) (by decide) dX11_move_46 fl_X11_235_7 sh_69 rfl (by unfold ge_Z; omega) ?_
        refine gq_if_ne (pc := 49) 58 dX11_move_49 (by decide) (fun h_49 => ?_) (fun h_49 => ?_)
        · refine gq_aload (pc := 58) dX11_move_58 rfl ?_
          refine kq_geto (pw := 25) (pc := 60) (by decide) dX11_move_60 fl_X11_235_7 sh_71 rfl (by unfold ge_Z; omega) ?_
          refine gq_aload (pc := 63) dX11_move_63 rfl ?_
          refine kq_geto (pw := 25) (pc := 65) (by decide) dX11_move_65 fl_X11_235_7 sh_69 rfl (by unfold ge_Z; omega) ?_
          refine gq_ic_eq (pc := 68) 77 dX11_move_68 (by decide) (fun h_68 => ?_) (fun h_68 => ?_)
          · refine gq_aload (pc := 77) dX11_move_77 rfl ?_
            refine gq_iload_n (pc := 79) dX11_move_79 rfl ?_
            refine gq_iload (pc := 80) dX11_move_80 rfl ?_
            refine gq_rV2i (pc := 82) dX11_move_82 cv_X11_293 sh_71 (r_holds_71 _ _) ⟨by decide, by decide⟩ rfl rfl (Nat.le_of_ble_eq_true rfl) ?_
            refine gq_if_eq (pc := 85) 100 dX11_move_85 (by decide) (fun h_85 => ?_) (fun h_85 => ?_)
            · exact absurd h_85 h4
            · refine gq_aload (pc := 88) dX11_move_88 rfl ?_
              refine gq_iload (pc := 90) dX11_move_90 rfl ?_
              refine gq_iload (pc := 92) dX11_move_92 rfl ?_
              refine gq_rV2i (pc := 94) dX11_move_94 cv_X11_293 sh_69 (r_holds_69 _ _) ⟨by decide, by decide⟩ rfl rfl (Nat.le_of_ble_eq_true rfl) ?_
              refine gq_if_ne (pc := 97) 106 dX11_move_97 (by decide) (fun h_97 => ?_) (fun h_97 => ?_)
              · refine gq_aload (pc := 106) dX11_move_106 rfl ?_
                refine gq_getr (pc := 108) dX11_move_108 fl_X11_297_7 sh_71 rfl ?_
                refine gq_iload_n (pc := 111) dX11_move_111 rfl ?_
                refine gq_aload (pc := 112) dX11_move_112 rfl ?_
                refine gq_getr (pc := 114) dX11_move_114 fl_X11_297_7 sh_69 rfl ?_
                refine gq_iload (pc := 117) dX11_move_117 rfl ?_
                refine gq_iload (pc := 119) dX11_move_119 rfl ?_
                refine kq_copy (pw := 25) (pc := 121) (by decide) (by decide) dX11_move_121 cc_X11_306 sh_72 sh_70 ea eb em q1 q2 (by decide) (by decide) (by decide) (Nat.le_of_ble_eq_true rfl) ?_
                refine gq_iload (pc := 124) dX11_move_124 rfl ?_
                exact gq_iret (pc := 126) rfl dX11_move_126 ⟨rfl, rfl⟩
              · exact absurd h_97 h5
          · exact absurd h3 h_68
        · exact absurd h_49 h2
    · exact absurd (show p_nt (p_in 1 0 3) = 0 by decide) h_11
set_option maxHeartbeats 400000 in
theorem c_move_no_2_2 {i j n : Int32} (h : g 71 2 = 0 ∨ g 71 2 = 0) : ge_N X ge_SH YX11_move 2 [.ref (ge_ad X.1 0), .int 2, .int i, .int 2, .int j, .int n] (ge_k g 25 r x hb) (some (.int (-1000000000 - 2))) (ge_k (ge_up g 75 2 (g 75 2 + 1)) 25 r x hb) := by
  refine gq_ofB (l := [(0, .ref (ge_ad X.1 0)), (1, .int 2), (2, .int i), (3, .int 2), (4, .int j), (5, .int n)]) (by decide) (Nat.le_of_ble_eq_true rfl) rfl ?_
  refine gq_iload_n (pc := 0) dX11_move_0 rfl ?_
  refine gq_rS1i (pc := 1) dX11_move_1 cs_X11_232 (c_noSheet _) ⟨by decide, by decide⟩ (Nat.le_of_ble_eq_true rfl) ?_
  refine gq_if_ne (pc := 4) 14 dX11_move_4 (by decide) (fun h_4 => ?_) (fun h_4 => ?_)
  · exact absurd h_4 (by decide)
  · refine gq_iload_n (pc := 7) dX11_move_7 rfl ?_
    refine gq_rS1i (pc := 8) dX11_move_8 cs_X11_232 (c_noSheet _) ⟨by decide, by decide⟩ (Nat.le_of_ble_eq_true rfl) ?_
    refine gq_if_eq (pc := 11) 20 dX11_move_11 (by decide) (fun h_11 => ?_) (fun h_11 => ?_)
    · refine gq_aload_n (pc := 20) dX11_move_20 rfl ?_
      refine gq_getr (pc := 21) dX11_move_21 fl_X11_89_11 sh_0 rfl ?_
      refine gq_iload_n (pc := 24) dX11_move_24 rfl ?_
      refine gq_aald (pc := 25) dX11_move_25 sh_66 rfl kl_2 rfl (by decide) ?_
      refine gq_astore (pc := 26) (l' := [(6, _), (0, _), (1, _), (2, _), (3, _), (4, _), (5, _)]) dX11_move_26 (by decide) rfl ?_
      refine gq_aload_n (pc := 28) dX11_move_28 rfl ?_
      refine gq_getr (pc := 29) dX11_move_29 fl_X11_89_11 sh_0 rfl ?_
      refine gq_iload_n (pc := 32) dX11_move_32 rfl ?_
      refine gq_aald (pc := 33) dX11_move_33 sh_66 rfl kl_2 rfl (by decide) ?_
      refine gq_astore (pc := 34) (l' := [(7, _), (6, _), (0, _), (1, _), (2, _), (3, _), (4, _), (5, _)]) dX11_move_34 (by decide) rfl ?_
      refine gq_aload (pc := 36) dX11_move_36 rfl ?_
      refine kq_geto (pw := 25) (pc := 38) (by decide) dX11_move_38 fl_X11_235_7 sh_71 rfl (by unfold ge_Z; omega) ?_
      refine gq_if_eq (pc := 41) 52 dX11_move_41 (by decide) (fun h_41 => ?_) (fun h_41 => ?_)
      · refine gq_aload_n (pc := 52) dX11_move_52 rfl ?_
        refine gq_iconst (pc := 53) dX11_move_53 kc_2 ?_
        refine gq_rV1i (pc := 54) dX11_move_54 cv_X11_109 sh_0 (c_error kl_2 (by decide)) ⟨by decide, by decide⟩ rfl rfl (Nat.le_of_ble_eq_true rfl) ?_
        exact gq_iret (pc := 57) rfl dX11_move_57 ⟨rfl, rfl⟩
      · refine gq_aload (pc := 44) dX11_move_44 rfl ?_
        refine kq_geto (pw := 25) (pc := 46) (by decide) dX11_move_46 fl_X11_235_7 sh_71 rfl (by unfold ge_Z; omega) ?_
        refine gq_if_ne (pc := 49) 58 dX11_move_49 (by decide) (fun h_49 => ?_) (fun h_49 => ?_)
        · exact (h.elim h_41 h_49).elim
        · refine gq_aload_n (pc := 52) dX11_move_52 rfl ?_
          refine gq_iconst (pc := 53) dX11_move_53 kc_2 ?_
          refine gq_rV1i (pc := 54) dX11_move_54 cv_X11_109 sh_0 (c_error kl_2 (by decide)) ⟨by decide, by decide⟩ rfl rfl (Nat.le_of_ble_eq_true rfl) ?_
          exact gq_iret (pc := 57) rfl dX11_move_57 ⟨rfl, rfl⟩
    · exact absurd (show p_nt (p_in 2 0 3) = 0 by decide) h_11
set_option maxHeartbeats 400000 in
theorem c_move_ki_2_2 {i j n : Int32} (h1 : ¬ g 71 2 = 0) (h2 : ¬ g 71 2 = 0) (h3 : ¬ g 71 2 = g 71 2) : ge_N X ge_SH YX11_move 2 [.ref (ge_ad X.1 0), .int 2, .int i, .int 2, .int j, .int n] (ge_k g 25 r x hb) (some (.int (-1000000000 - 5))) (ge_k (ge_up g 75 5 (g 75 5 + 1)) 25 r x hb) := by
  refine gq_ofB (l := [(0, .ref (ge_ad X.1 0)), (1, .int 2), (2, .int i), (3, .int 2), (4, .int j), (5, .int n)]) (by decide) (Nat.le_of_ble_eq_true rfl) rfl ?_
  refine gq_iload_n (pc := 0) dX11_move_0 rfl ?_
  refine gq_rS1i (pc := 1) dX11_move_1 cs_X11_232 (c_noSheet _) ⟨by decide, by decide⟩ (Nat.le_of_ble_eq_true rfl) ?_
  refine gq_if_ne (pc := 4) 14 dX11_move_4 (by decide) (fun h_4 => ?_) (fun h_4 => ?_)
  · exact absurd h_4 (by decide)
  · refine gq_iload_n (pc := 7) dX11_move_7 rfl ?_
    refine gq_rS1i (pc := 8) dX11_move_8 cs_X11_232 (c_noSheet _) ⟨by decide, by decide⟩ (Nat.le_of_ble_eq_true rfl) ?_
    refine gq_if_eq (pc := 11) 20 dX11_move_11 (by decide) (fun h_11 => ?_) (fun h_11 => ?_)
    · refine gq_aload_n (pc := 20) dX11_move_20 rfl ?_
      refine gq_getr (pc := 21) dX11_move_21 fl_X11_89_11 sh_0 rfl ?_
      refine gq_iload_n (pc := 24) dX11_move_24 rfl ?_
      refine gq_aald (pc := 25) dX11_move_25 sh_66 rfl kl_2 rfl (by decide) ?_
      refine gq_astore (pc := 26) (l' := [(6, _), (0, _), (1, _), (2, _), (3, _), (4, _), (5, _)]) dX11_move_26 (by decide) rfl ?_
      refine gq_aload_n (pc := 28) dX11_move_28 rfl ?_
      refine gq_getr (pc := 29) dX11_move_29 fl_X11_89_11 sh_0 rfl ?_
      refine gq_iload_n (pc := 32) dX11_move_32 rfl ?_
      refine gq_aald (pc := 33) dX11_move_33 sh_66 rfl kl_2 rfl (by decide) ?_
      refine gq_astore (pc := 34) (l' := [(7, _), (6, _), (0, _), (1, _), (2, _), (3, _), (4, _), (5, _)]) dX11_move_34 (by decide) rfl ?_
      refine gq_aload (pc := 36) dX11_move_36 rfl ?_
      refine kq_geto (pw := 25) (pc := 38) (by decide) dX11_move_38 fl_X11_235_7 sh_71 rfl (by unfold ge_Z; omega) ?_
      refine gq_if_eq (pc := 41) 52 dX11_move_41 (by decide) (fun h_41 => ?_) (fun h_41 => ?_)
      · exact absurd h_41 h1
      · refine gq_aload (pc := 44) dX11_move_44 rfl ?_
        refine kq_geto (pw := 25) (pc := 46) (by decide) dX11_move_46 fl_X11_235_7 sh_71 rfl (by unfold ge_Z; omega) ?_
        refine gq_if_ne (pc := 49) 58 dX11_move_49 (by decide) (fun h_49 => ?_) (fun h_49 => ?_)
        · refine gq_aload (pc := 58) dX11_move_58 rfl ?_
          refine kq_geto (pw := 25) (pc := 60) (by decide) dX11_move_60 fl_X11_235_7 sh_71 rfl (by unfold ge_Z; omega) ?_
          refine gq_aload (pc := 63) dX11_move_63 rfl ?_
          refine kq_geto (pw := 25) (pc := 65) (by decide) dX11_move_65 fl_X11_235_7 sh_71 rfl (by unfold ge_Z; omega) ?_
          refine gq_ic_eq (pc := 68) 77 dX11_move_68 (by decide) (fun h_68 => ?_) (fun h_68 => ?_)
          · exact absurd h_68 h3
          · refine gq_aload_n (pc := 71) dX11_move_71 rfl ?_
            refine gq_iconst (pc := 72) dX11_move_72 kc_5 ?_
            refine gq_rV1i (pc := 73) dX11_move_73 cv_X11_109 sh_0 (c_error kl_5 (by decide)) ⟨by decide, by decide⟩ rfl rfl (Nat.le_of_ble_eq_true rfl) ?_
            exact gq_iret (pc := 76) rfl dX11_move_76 ⟨rfl, rfl⟩
        · exact absurd h_49 h2
    · exact absurd (show p_nt (p_in 2 0 3) = 0 by decide) h_11
set_option maxHeartbeats 400000 in
theorem c_move_er2_2_2 {i j n : Int32} (h1 : ¬ g 71 2 = 0) (h2 : ¬ g 71 2 = 0) (h3 : g 71 2 = g 71 2) (h4 : p_hold (g 71 1) i n = 0 ∨ p_hold (g 71 1) j n = 0) : ge_N X ge_SH YX11_move 2 [.ref (ge_ad X.1 0), .int 2, .int i, .int 2, .int j, .int n] (ge_k g 25 r x hb) (some (.int (-1000000000 - 1))) (ge_k (ge_up g 75 1 (g 75 1 + 1)) 25 r x hb) := by
  refine gq_ofB (l := [(0, .ref (ge_ad X.1 0)), (1, .int 2), (2, .int i), (3, .int 2), (4, .int j), (5, .int n)]) (by decide) (Nat.le_of_ble_eq_true rfl) rfl ?_
  refine gq_iload_n (pc := 0) dX11_move_0 rfl ?_
  refine gq_rS1i (pc := 1) dX11_move_1 cs_X11_232 (c_noSheet _) ⟨by decide, by decide⟩ (Nat.le_of_ble_eq_true rfl) ?_
  refine gq_if_ne (pc := 4) 14 dX11_move_4 (by decide) (fun h_4 => ?_) (fun h_4 => ?_)
  · exact absurd h_4 (by decide)
  · refine gq_iload_n (pc := 7) dX11_move_7 rfl ?_
    refine gq_rS1i (pc := 8) dX11_move_8 cs_X11_232 (c_noSheet _) ⟨by decide, by decide⟩ (Nat.le_of_ble_eq_true rfl) ?_
    refine gq_if_eq (pc := 11) 20 dX11_move_11 (by decide) (fun h_11 => ?_) (fun h_11 => ?_)
    · refine gq_aload_n (pc := 20) dX11_move_20 rfl ?_
      refine gq_getr (pc := 21) dX11_move_21 fl_X11_89_11 sh_0 rfl ?_
      refine gq_iload_n (pc := 24) dX11_move_24 rfl ?_
      refine gq_aald (pc := 25) dX11_move_25 sh_66 rfl kl_2 rfl (by decide) ?_
      refine gq_astore (pc := 26) (l' := [(6, _), (0, _), (1, _), (2, _), (3, _), (4, _), (5, _)]) dX11_move_26 (by decide) rfl ?_
      refine gq_aload_n (pc := 28) dX11_move_28 rfl ?_
      refine gq_getr (pc := 29) dX11_move_29 fl_X11_89_11 sh_0 rfl ?_
      refine gq_iload_n (pc := 32) dX11_move_32 rfl ?_
      refine gq_aald (pc := 33) dX11_move_33 sh_66 rfl kl_2 rfl (by decide) ?_
      refine gq_astore (pc := 34) (l' := [(7, _), (6, _), (0, _), (1, _), (2, _), (3, _), (4, _), (5, _)]) dX11_move_34 (by decide) rfl ?_
      refine gq_aload (pc := 36) dX11_move_36 rfl ?_
      refine kq_geto (pw := 25) (pc := 38) (by decide) dX11_move_38 fl_X11_235_7 sh_71 rfl (by unfold ge_Z; omega) ?_
      refine gq_if_eq (pc := 41) 52 dX11_move_41 (by decide) (fun h_41 => ?_) (fun h_41 => ?_)
      · exact absurd h_41 h1
      · refine gq_aload (pc := 44) dX11_move_44 rfl ?_
        refine kq_geto (pw := 25) (pc := 46) (by decide) dX11_move_46 fl_X11_235_7 sh_71 rfl (by unfold ge_Z; omega) ?_
        refine gq_if_ne (pc := 49) 58 dX11_move_49 (by decide) (fun h_49 => ?_) (fun h_49 => ?_)
        · refine gq_aload (pc := 58) dX11_move_58 rfl ?_
          refine kq_geto (pw := 25) (pc := 60) (by decide) dX11_move_60 fl_X11_235_7 sh_71 rfl (by unfold ge_Z; omega) ?_
          refine gq_aload (pc := 63) dX11_move_63 rfl ?_
          refine kq_geto (pw := 25) (pc := 65) (by decide) dX11_move_65 fl_X11_235_7 sh_71 rfl (by unfold ge_Z; omega) ?_
          refine gq_ic_eq (pc := 68) 77 dX11_move_68 (by decide) (fun h_68 => ?_) (fun h_68 => ?_)
          · refine gq_aload (pc := 77) dX11_move_77 rfl ?_
            refine gq_iload_n (pc := 79) dX11_move_79 rfl ?_
            refine gq_iload (pc := 80) dX11_move_80 rfl ?_
            refine gq_rV2i (pc := 82) dX11_move_82 cv_X11_293 sh_71 (r_holds_71 _ _) ⟨by decide, by decide⟩ rfl rfl (Nat.le_of_ble_eq_true rfl) ?_
            refine gq_if_eq (pc := 85) 100 dX11_move_85 (by decide) (fun h_85 => ?_) (fun h_85 => ?_)
            · refine gq_aload_n (pc := 100) dX11_move_100 rfl ?_
              refine gq_iconst (pc := 101) dX11_move_101 kc_1 ?_
              refine gq_rV1i (pc := 102) dX11_move_102 cv_X11_109 sh_0 (c_error kl_1 (by decide)) ⟨by decide, by decide⟩ rfl rfl (Nat.le_of_ble_eq_true rfl) ?_
              exact gq_iret (pc := 105) rfl dX11_move_105 ⟨rfl, rfl⟩
            · refine gq_aload (pc := 88) dX11_move_88 rfl ?_
              refine gq_iload (pc := 90) dX11_move_90 rfl ?_
              refine gq_iload (pc := 92) dX11_move_92 rfl ?_
              refine gq_rV2i (pc := 94) dX11_move_94 cv_X11_293 sh_71 (r_holds_71 _ _) ⟨by decide, by decide⟩ rfl rfl (Nat.le_of_ble_eq_true rfl) ?_
              refine gq_if_ne (pc := 97) 106 dX11_move_97 (by decide) (fun h_97 => ?_) (fun h_97 => ?_)
              · exact (h4.elim h_85 h_97).elim
              · refine gq_aload_n (pc := 100) dX11_move_100 rfl ?_
                refine gq_iconst (pc := 101) dX11_move_101 kc_1 ?_
                refine gq_rV1i (pc := 102) dX11_move_102 cv_X11_109 sh_0 (c_error kl_1 (by decide)) ⟨by decide, by decide⟩ rfl rfl (Nat.le_of_ble_eq_true rfl) ?_
                exact gq_iret (pc := 105) rfl dX11_move_105 ⟨rfl, rfl⟩
          · exact absurd h3 h_68
        · exact absurd h_49 h2
    · exact absurd (show p_nt (p_in 2 0 3) = 0 by decide) h_11
set_option maxHeartbeats 400000 in
theorem c_move_ok_2_2 {i j n : Int32} (h1 : ¬ g 71 2 = 0) (h2 : ¬ g 71 2 = 0) (h3 : g 71 2 = g 71 2) (h4 : ¬ p_hold (g 71 1) i n = 0) (h5 : ¬ p_hold (g 71 1) j n = 0) {a b m : Nat} (ea : i = nI a) (eb : j = nI b) (em : n = nI m) (q1 : a + m ≤ 40) (q2 : b + m ≤ 40) : ge_N X ge_SH YX11_move 2 [.ref (ge_ad X.1 0), .int 2, .int i, .int 2, .int j, .int n] (ge_k g 25 r x hb) (some (.int n)) (ge_k (ge_row g 72 (va_cpy (g 72) (g 72) a b m)) 25 r x hb) := by
  refine gq_ofB (l := [(0, .ref (ge_ad X.1 0)), (1, .int 2), (2, .int i), (3, .int 2), (4, .int j), (5, .int n)]) (by decide) (Nat.le_of_ble_eq_true rfl) rfl ?_
  refine gq_iload_n (pc := 0) dX11_move_0 rfl ?_
  refine gq_rS1i (pc := 1) dX11_move_1 cs_X11_232 (c_noSheet _) ⟨by decide, by decide⟩ (Nat.le_of_ble_eq_true rfl) ?_
  refine gq_if_ne (pc := 4) 14 dX11_move_4 (by decide) (fun h_4 => ?_) (fun h_4 => ?_)
  · exact absurd h_4 (by decide)
  · refine gq_iload_n (pc := 7) dX11_move_7 rfl ?_
    refine gq_rS1i (pc := 8) dX11_move_8 cs_X11_232 (c_noSheet _) ⟨by decide, by decide⟩ (Nat.le_of_ble_eq_true rfl) ?_
    refine gq_if_eq (pc := 11) 20 dX11_move_11 (by decide) (fun h_11 => ?_) (fun h_11 => ?_)
    · refine gq_aload_n (pc := 20) dX11_move_20 rfl ?_
      refine gq_getr (pc := 21) dX11_move_21 fl_X11_89_11 sh_0 rfl ?_
      refine gq_iload_n (pc := 24) dX11_move_24 rfl ?_
      refine gq_aald (pc := 25) dX11_move_25 sh_66 rfl kl_2 rfl (by decide) ?_
      refine gq_astore (pc := 26) (l' := [(6, _), (0, _), (1, _), (2, _), (3, _), (4, _), (5, _)]) dX11_move_26 (by decide) rfl ?_
      refine gq_aload_n (pc := 28) dX11_move_28 rfl ?_
      refine gq_getr (pc := 29) dX11_move_29 fl_X11_89_11 sh_0 rfl ?_
      refine gq_iload_n (pc := 32) dX11_move_32 rfl ?_
      refine gq_aald (pc := 33) dX11_move_33 sh_66 rfl kl_2 rfl (by decide) ?_
      refine gq_astore (pc := 34) (l' := [(7, _), (6, _), (0, _), (1, _), (2, _), (3, _), (4, _), (5, _)]) dX11_move_34 (by decide) rfl ?_
      refine gq_aload (pc := 36) dX11_move_36 rfl ?_
      refine kq_geto (pw := 25) (pc := 38) (by decide) dX11_move_38 fl_X11_235_7 sh_71 rfl (by unfold ge_Z; omega) ?_
      refine gq_if_eq (pc := 41) 52 dX11_move_41 (by decide) (fun h_41 => ?_) (fun h_41 => ?_)
      · exact absurd h_41 h1
      · refine gq_aload (pc := 44) dX11_move_44 rfl ?_
        refine kq_geto (pw := 25) (pc := 46) (by decide) dX11_move_46 fl_X11_235_7 sh_71 rfl (by unfold ge_Z; omega) ?_
        refine gq_if_ne (pc := 49) 58 dX11_move_49 (by decide) (fun h_49 => ?_) (fun h_49 => ?_)
        · refine gq_aload (pc := 58) dX11_move_58 rfl ?_
          refine kq_geto (pw := 25) (pc := 60) (by decide) dX11_move_60 fl_X11_235_7 sh_71 rfl (by unfold ge_Z; omega) ?_
          refine gq_aload (pc := 63) dX11_move_63 rfl ?_
          refine kq_geto (pw := 25) (pc := 65) (by decide) dX11_move_65 fl_X11_235_7 sh_71 rfl (by unfold ge_Z; omega) ?_
          refine gq_ic_eq (pc := 68) 77 dX11_move_68 (by decide) (fun h_68 => ?_) (fun h_68 => ?_)
          · refine gq_aload (pc := 77) dX11_move_77 rfl ?_
            refine gq_iload_n (pc := 79) dX11_move_79 rfl ?_
            refine gq_iload (pc := 80) dX11_move_80 rfl ?_
            refine gq_rV2i (pc := 82) dX11_move_82 cv_X11_293 sh_71 (r_holds_71 _ _) ⟨by decide, by decide⟩ rfl rfl (Nat.le_of_ble_eq_true rfl) ?_
            refine gq_if_eq (pc := 85) 100 dX11_move_85 (by decide) (fun h_85 => ?_) (fun h_85 => ?_)
            · exact absurd h_85 h4
            · refine gq_aload (pc := 88) dX11_move_88 rfl ?_
              refine gq_iload (pc := 90) dX11_move_90 rfl ?_
              refine gq_iload (pc := 92) dX11_move_92 rfl ?_
              refine gq_rV2i (pc := 94) dX11_move_94 cv_X11_293 sh_71 (r_holds_71 _ _) ⟨by decide, by decide⟩ rfl rfl (Nat.le_of_ble_eq_true rfl) ?_
              refine gq_if_ne (pc := 97) 106 dX11_move_97 (by decide) (fun h_97 => ?_) (fun h_97 => ?_)
              · refine gq_aload (pc := 106) dX11_move_106 rfl ?_
                refine gq_getr (pc := 108) dX11_move_108 fl_X11_297_7 sh_71 rfl ?_
                refine gq_iload_n (pc := 111) dX11_move_111 rfl ?_
                refine gq_aload (pc := 112) dX11_move_112 rfl ?_
                refine gq_getr (pc := 114) dX11_move_114 fl_X11_297_7 sh_71 rfl ?_
                refine gq_iload (pc := 117) dX11_move_117 rfl ?_
                refine gq_iload (pc := 119) dX11_move_119 rfl ?_
                refine kq_copy (pw := 25) (pc := 121) (by decide) (by decide) dX11_move_121 cc_X11_306 sh_72 sh_72 ea eb em q1 q2 (by decide) (by decide) (by decide) (Nat.le_of_ble_eq_true rfl) ?_
                refine gq_iload (pc := 124) dX11_move_124 rfl ?_
                exact gq_iret (pc := 126) rfl dX11_move_126 ⟨rfl, rfl⟩
              · exact absurd h_97 h5
          · exact absurd h3 h_68
        · exact absurd h_49 h2
    · exact absurd (show p_nt (p_in 2 0 3) = 0 by decide) h_11
set_option maxHeartbeats 400000 in
theorem c_move_no_2_3 {i j n : Int32} (h : g 71 2 = 0 ∨ g 73 2 = 0) : ge_N X ge_SH YX11_move 2 [.ref (ge_ad X.1 0), .int 2, .int i, .int 3, .int j, .int n] (ge_k g 25 r x hb) (some (.int (-1000000000 - 2))) (ge_k (ge_up g 75 2 (g 75 2 + 1)) 25 r x hb) := by
  refine gq_ofB (l := [(0, .ref (ge_ad X.1 0)), (1, .int 2), (2, .int i), (3, .int 3), (4, .int j), (5, .int n)]) (by decide) (Nat.le_of_ble_eq_true rfl) rfl ?_
  refine gq_iload_n (pc := 0) dX11_move_0 rfl ?_
  refine gq_rS1i (pc := 1) dX11_move_1 cs_X11_232 (c_noSheet _) ⟨by decide, by decide⟩ (Nat.le_of_ble_eq_true rfl) ?_
  refine gq_if_ne (pc := 4) 14 dX11_move_4 (by decide) (fun h_4 => ?_) (fun h_4 => ?_)
  · exact absurd h_4 (by decide)
  · refine gq_iload_n (pc := 7) dX11_move_7 rfl ?_
    refine gq_rS1i (pc := 8) dX11_move_8 cs_X11_232 (c_noSheet _) ⟨by decide, by decide⟩ (Nat.le_of_ble_eq_true rfl) ?_
    refine gq_if_eq (pc := 11) 20 dX11_move_11 (by decide) (fun h_11 => ?_) (fun h_11 => ?_)
    · refine gq_aload_n (pc := 20) dX11_move_20 rfl ?_
      refine gq_getr (pc := 21) dX11_move_21 fl_X11_89_11 sh_0 rfl ?_
      refine gq_iload_n (pc := 24) dX11_move_24 rfl ?_
      refine gq_aald (pc := 25) dX11_move_25 sh_66 rfl kl_2 rfl (by decide) ?_
      refine gq_astore (pc := 26) (l' := [(6, _), (0, _), (1, _), (2, _), (3, _), (4, _), (5, _)]) dX11_move_26 (by decide) rfl ?_
      refine gq_aload_n (pc := 28) dX11_move_28 rfl ?_
      refine gq_getr (pc := 29) dX11_move_29 fl_X11_89_11 sh_0 rfl ?_
      refine gq_iload_n (pc := 32) dX11_move_32 rfl ?_
      refine gq_aald (pc := 33) dX11_move_33 sh_66 rfl kl_3 rfl (by decide) ?_
      refine gq_astore (pc := 34) (l' := [(7, _), (6, _), (0, _), (1, _), (2, _), (3, _), (4, _), (5, _)]) dX11_move_34 (by decide) rfl ?_
      refine gq_aload (pc := 36) dX11_move_36 rfl ?_
      refine kq_geto (pw := 25) (pc := 38) (by decide) dX11_move_38 fl_X11_235_7 sh_71 rfl (by unfold ge_Z; omega) ?_
      refine gq_if_eq (pc := 41) 52 dX11_move_41 (by decide) (fun h_41 => ?_) (fun h_41 => ?_)
      · refine gq_aload_n (pc := 52) dX11_move_52 rfl ?_
        refine gq_iconst (pc := 53) dX11_move_53 kc_2 ?_
        refine gq_rV1i (pc := 54) dX11_move_54 cv_X11_109 sh_0 (c_error kl_2 (by decide)) ⟨by decide, by decide⟩ rfl rfl (Nat.le_of_ble_eq_true rfl) ?_
        exact gq_iret (pc := 57) rfl dX11_move_57 ⟨rfl, rfl⟩
      · refine gq_aload (pc := 44) dX11_move_44 rfl ?_
        refine kq_geto (pw := 25) (pc := 46) (by decide) dX11_move_46 fl_X11_235_7 sh_73 rfl (by unfold ge_Z; omega) ?_
        refine gq_if_ne (pc := 49) 58 dX11_move_49 (by decide) (fun h_49 => ?_) (fun h_49 => ?_)
        · exact (h.elim h_41 h_49).elim
        · refine gq_aload_n (pc := 52) dX11_move_52 rfl ?_
          refine gq_iconst (pc := 53) dX11_move_53 kc_2 ?_
          refine gq_rV1i (pc := 54) dX11_move_54 cv_X11_109 sh_0 (c_error kl_2 (by decide)) ⟨by decide, by decide⟩ rfl rfl (Nat.le_of_ble_eq_true rfl) ?_
          exact gq_iret (pc := 57) rfl dX11_move_57 ⟨rfl, rfl⟩
    · exact absurd (show p_nt (p_in 3 0 3) = 0 by decide) h_11
set_option maxHeartbeats 400000 in
theorem c_move_ki_2_3 {i j n : Int32} (h1 : ¬ g 71 2 = 0) (h2 : ¬ g 73 2 = 0) (h3 : ¬ g 71 2 = g 73 2) : ge_N X ge_SH YX11_move 2 [.ref (ge_ad X.1 0), .int 2, .int i, .int 3, .int j, .int n] (ge_k g 25 r x hb) (some (.int (-1000000000 - 5))) (ge_k (ge_up g 75 5 (g 75 5 + 1)) 25 r x hb) := by
  refine gq_ofB (l := [(0, .ref (ge_ad X.1 0)), (1, .int 2), (2, .int i), (3, .int 3), (4, .int j), (5, .int n)]) (by decide) (Nat.le_of_ble_eq_true rfl) rfl ?_
  refine gq_iload_n (pc := 0) dX11_move_0 rfl ?_
  refine gq_rS1i (pc := 1) dX11_move_1 cs_X11_232 (c_noSheet _) ⟨by decide, by decide⟩ (Nat.le_of_ble_eq_true rfl) ?_
  refine gq_if_ne (pc := 4) 14 dX11_move_4 (by decide) (fun h_4 => ?_) (fun h_4 => ?_)
  · exact absurd h_4 (by decide)
  · refine gq_iload_n (pc := 7) dX11_move_7 rfl ?_
    refine gq_rS1i (pc := 8) dX11_move_8 cs_X11_232 (c_noSheet _) ⟨by decide, by decide⟩ (Nat.le_of_ble_eq_true rfl) ?_
    refine gq_if_eq (pc := 11) 20 dX11_move_11 (by decide) (fun h_11 => ?_) (fun h_11 => ?_)
    · refine gq_aload_n (pc := 20) dX11_move_20 rfl ?_
      refine gq_getr (pc := 21) dX11_move_21 fl_X11_89_11 sh_0 rfl ?_
      refine gq_iload_n (pc := 24) dX11_move_24 rfl ?_
      refine gq_aald (pc := 25) dX11_move_25 sh_66 rfl kl_2 rfl (by decide) ?_
      refine gq_astore (pc := 26) (l' := [(6, _), (0, _), (1, _), (2, _), (3, _), (4, _), (5, _)]) dX11_move_26 (by decide) rfl ?_
      refine gq_aload_n (pc := 28) dX11_move_28 rfl ?_
      refine gq_getr (pc := 29) dX11_move_29 fl_X11_89_11 sh_0 rfl ?_
      refine gq_iload_n (pc := 32) dX11_move_32 rfl ?_
      refine gq_aald (pc := 33) dX11_move_33 sh_66 rfl kl_3 rfl (by decide) ?_
      refine gq_astore (pc := 34) (l' := [(7, _), (6, _), (0, _), (1, _), (2, _), (3, _), (4, _), (5, _)]) dX11_move_34 (by decide) rfl ?_
      refine gq_aload (pc := 36) dX11_move_36 rfl ?_
      refine kq_geto (pw := 25) (pc := 38) (by decide) dX11_move_38 fl_X11_235_7 sh_71 rfl (by unfold ge_Z; omega) ?_
      refine gq_if_eq (pc := 41) 52 dX11_move_41 (by decide) (fun h_41 => ?_) (fun h_41 => ?_)
      · exact absurd h_41 h1
      · refine gq_aload (pc := 44) dX11_move_44 rfl ?_
        refine kq_geto (pw := 25) (pc := 46) (by decide) dX11_move_46 fl_X11_235_7 sh_73 rfl (by unfold ge_Z; omega) ?_
        refine gq_if_ne (pc := 49) 58 dX11_move_49 (by decide) (fun h_49 => ?_) (fun h_49 => ?_)
        · refine gq_aload (pc := 58) dX11_move_58 rfl ?_
          refine kq_geto (pw := 25) (pc := 60) (by decide) dX11_move_60 fl_X11_235_7 sh_71 rfl (by unfold ge_Z; omega) ?_
          refine gq_aload (pc := 63) dX11_move_63 rfl ?_
          refine kq_geto (pw := 25) (pc := 65) (by decide) dX11_move_65 fl_X11_235_7 sh_73 rfl (by unfold ge_Z; omega) ?_
          refine gq_ic_eq (pc := 68) 77 dX11_move_68 (by decide) (fun h_68 => ?_) (fun h_68 => ?_)
          · exact absurd h_68 h3
          · refine gq_aload_n (pc := 71) dX11_move_71 rfl ?_
            refine gq_iconst (pc := 72) dX11_move_72 kc_5 ?_
            refine gq_rV1i (pc := 73) dX11_move_73 cv_X11_109 sh_0 (c_error kl_5 (by decide)) ⟨by decide, by decide⟩ rfl rfl (Nat.le_of_ble_eq_true rfl) ?_
            exact gq_iret (pc := 76) rfl dX11_move_76 ⟨rfl, rfl⟩
        · exact absurd h_49 h2
    · exact absurd (show p_nt (p_in 3 0 3) = 0 by decide) h_11
set_option maxHeartbeats 400000 in
theorem c_move_er2_2_3 {i j n : Int32} (h1 : ¬ g 71 2 = 0) (h2 : ¬ g 73 2 = 0) (h3 : g 71 2 = g 73 2) (h4 : p_hold (g 71 1) i n = 0 ∨ p_hold (g 73 1) j n = 0) : ge_N X ge_SH YX11_move 2 [.ref (ge_ad X.1 0), .int 2, .int i, .int 3, .int j, .int n] (ge_k g 25 r x hb) (some (.int (-1000000000 - 1))) (ge_k (ge_up g 75 1 (g 75 1 + 1)) 25 r x hb) := by
  refine gq_ofB (l := [(0, .ref (ge_ad X.1 0)), (1, .int 2), (2, .int i), (3, .int 3), (4, .int j), (5, .int n)]) (by decide) (Nat.le_of_ble_eq_true rfl) rfl ?_
  refine gq_iload_n (pc := 0) dX11_move_0 rfl ?_
  refine gq_rS1i (pc := 1) dX11_move_1 cs_X11_232 (c_noSheet _) ⟨by decide, by decide⟩ (Nat.le_of_ble_eq_true rfl) ?_
  refine gq_if_ne (pc := 4) 14 dX11_move_4 (by decide) (fun h_4 => ?_) (fun h_4 => ?_)
  · exact absurd h_4 (by decide)
  · refine gq_iload_n (pc := 7) dX11_move_7 rfl ?_
    refine gq_rS1i (pc := 8) dX11_move_8 cs_X11_232 (c_noSheet _) ⟨by decide, by decide⟩ (Nat.le_of_ble_eq_true rfl) ?_
    refine gq_if_eq (pc := 11) 20 dX11_move_11 (by decide) (fun h_11 => ?_) (fun h_11 => ?_)
    · refine gq_aload_n (pc := 20) dX11_move_20 rfl ?_
      refine gq_getr (pc := 21) dX11_move_21 fl_X11_89_11 sh_0 rfl ?_
      refine gq_iload_n (pc := 24) dX11_move_24 rfl ?_
      refine gq_aald (pc := 25) dX11_move_25 sh_66 rfl kl_2 rfl (by decide) ?_
      refine gq_astore (pc := 26) (l' := [(6, _), (0, _), (1, _), (2, _), (3, _), (4, _), (5, _)]) dX11_move_26 (by decide) rfl ?_
      refine gq_aload_n (pc := 28) dX11_move_28 rfl ?_
      refine gq_getr (pc := 29) dX11_move_29 fl_X11_89_11 sh_0 rfl ?_
      refine gq_iload_n (pc := 32) dX11_move_32 rfl ?_
      refine gq_aald (pc := 33) dX11_move_33 sh_66 rfl kl_3 rfl (by decide) ?_
      refine gq_astore (pc := 34) (l' := [(7, _), (6, _), (0, _), (1, _), (2, _), (3, _), (4, _), (5, _)]) dX11_move_34 (by decide) rfl ?_
      refine gq_aload (pc := 36) dX11_move_36 rfl ?_
      refine kq_geto (pw := 25) (pc := 38) (by decide) dX11_move_38 fl_X11_235_7 sh_71 rfl (by unfold ge_Z; omega) ?_
      refine gq_if_eq (pc := 41) 52 dX11_move_41 (by decide) (fun h_41 => ?_) (fun h_41 => ?_)
      · exact absurd h_41 h1
      · refine gq_aload (pc := 44) dX11_move_44 rfl ?_
        refine kq_geto (pw := 25) (pc := 46) (by decide) dX11_move_46 fl_X11_235_7 sh_73 rfl (by unfold ge_Z; omega) ?_
        refine gq_if_ne (pc := 49) 58 dX11_move_49 (by decide) (fun h_49 => ?_) (fun h_49 => ?_)
        · refine gq_aload (pc := 58) dX11_move_58 rfl ?_
          refine kq_geto (pw := 25) (pc := 60) (by decide) dX11_move_60 fl_X11_235_7 sh_71 rfl (by unfold ge_Z; omega) ?_
          refine gq_aload (pc := 63) dX11_move_63 rfl ?_
          refine kq_geto (pw := 25) (pc := 65) (by decide) dX11_move_65 fl_X11_235_7 sh_73 rfl (by unfold ge_Z; omega) ?_
          refine gq_ic_eq (pc := 68) 77 dX11_move_68 (by decide) (fun h_68 => ?_) (fun h_68 => ?_)
          · refine gq_aload (pc := 77) dX11_move_77 rfl ?_
            refine gq_iload_n (pc := 79) dX11_move_79 rfl ?_
            refine gq_iload (pc := 80) dX11_move_80 rfl ?_
            refine gq_rV2i (pc := 82) dX11_move_82 cv_X11_293 sh_71 (r_holds_71 _ _) ⟨by decide, by decide⟩ rfl rfl (Nat.le_of_ble_eq_true rfl) ?_
            refine gq_if_eq (pc := 85) 100 dX11_move_85 (by decide) (fun h_85 => ?_) (fun h_85 => ?_)
            · refine gq_aload_n (pc := 100) dX11_move_100 rfl ?_
              refine gq_iconst (pc := 101) dX11_move_101 kc_1 ?_
              refine gq_rV1i (pc := 102) dX11_move_102 cv_X11_109 sh_0 (c_error kl_1 (by decide)) ⟨by decide, by decide⟩ rfl rfl (Nat.le_of_ble_eq_true rfl) ?_
              exact gq_iret (pc := 105) rfl dX11_move_105 ⟨rfl, rfl⟩
            · refine gq_aload (pc := 88) dX11_move_88 rfl ?_
              refine gq_iload (pc := 90) dX11_move_90 rfl ?_
              refine gq_iload (pc := 92) dX11_move_92 rfl ?_
              refine gq_rV2i (pc := 94) dX11_move_94 cv_X11_293 sh_73 (r_holds_73 _ _) ⟨by decide, by decide⟩ rfl rfl (Nat.le_of_ble_eq_true rfl) ?_
              refine gq_if_ne (pc := 97) 106 dX11_move_97 (by decide) (fun h_97 => ?_) (fun h_97 => ?_)
              · exact (h4.elim h_85 h_97).elim
              · refine gq_aload_n (pc := 100) dX11_move_100 rfl ?_
                refine gq_iconst (pc := 101) dX11_move_101 kc_1 ?_
                refine gq_rV1i (pc := 102) dX11_move_102 cv_X11_109 sh_0 (c_error kl_1 (by decide)) ⟨by decide, by decide⟩ rfl rfl (Nat.le_of_ble_eq_true rfl) ?_
                exact gq_iret (pc := 105) rfl dX11_move_105 ⟨rfl, rfl⟩
          · exact absurd h3 h_68
        · exact absurd h_49 h2
    · exact absurd (show p_nt (p_in 3 0 3) = 0 by decide) h_11
set_option maxHeartbeats 400000 in
theorem c_move_ok_2_3 {i j n : Int32} (h1 : ¬ g 71 2 = 0) (h2 : ¬ g 73 2 = 0) (h3 : g 71 2 = g 73 2) (h4 : ¬ p_hold (g 71 1) i n = 0) (h5 : ¬ p_hold (g 73 1) j n = 0) {a b m : Nat} (ea : i = nI a) (eb : j = nI b) (em : n = nI m) (q1 : a + m ≤ 40) (q2 : b + m ≤ 40) : ge_N X ge_SH YX11_move 2 [.ref (ge_ad X.1 0), .int 2, .int i, .int 3, .int j, .int n] (ge_k g 25 r x hb) (some (.int n)) (ge_k (ge_row g 74 (va_cpy (g 72) (g 74) a b m)) 25 r x hb) := by
  refine gq_ofB (l := [(0, .ref (ge_ad X.1 0)), (1, .int 2), (2, .int i), (3, .int 3), (4, .int j), (5, .int n)]) (by decide) (Nat.le_of_ble_eq_true rfl) rfl ?_
  refine gq_iload_n (pc := 0) dX11_move_0 rfl ?_
  refine gq_rS1i (pc := 1) dX11_move_1 cs_X11_232 (c_noSheet _) ⟨by decide, by decide⟩ (Nat.le_of_ble_eq_true rfl) ?_
  refine gq_if_ne (pc := 4) 14 dX11_move_4 (by decide) (fun h_4 => ?_) (fun h_4 => ?_)
  · exact absurd h_4 (by decide)
  · refine gq_iload_n (pc := 7) dX11_move_7 rfl ?_
    refine gq_rS1i (pc := 8) dX11_move_8 cs_X11_232 (c_noSheet _) ⟨by decide, by decide⟩ (Nat.le_of_ble_eq_true rfl) ?_
    refine gq_if_eq (pc := 11) 20 dX11_move_11 (by decide) (fun h_11 => ?_) (fun h_11 => ?_)
    · refine gq_aload_n (pc := 20) dX11_move_20 rfl ?_
      refine gq_getr (pc := 21) dX11_move_21 fl_X11_89_11 sh_0 rfl ?_
      refine gq_iload_n (pc := 24) dX11_move_24 rfl ?_
      refine gq_aald (pc := 25) dX11_move_25 sh_66 rfl kl_2 rfl (by decide) ?_
      refine gq_astore (pc := 26) (l' := [(6, _), (0, _), (1, _), (2, _), (3, _), (4, _), (5, _)]) dX11_move_26 (by decide) rfl ?_
      refine gq_aload_n (pc := 28) dX11_move_28 rfl ?_
      refine gq_getr (pc := 29) dX11_move_29 fl_X11_89_11 sh_0 rfl ?_
      refine gq_iload_n (pc := 32) dX11_move_32 rfl ?_
      refine gq_aald (pc := 33) dX11_move_33 sh_66 rfl kl_3 rfl (by decide) ?_
      refine gq_astore (pc := 34) (l' := [(7, _), (6, _), (0, _), (1, _), (2, _), (3, _), (4, _), (5, _)]) dX11_move_34 (by decide) rfl ?_
      refine gq_aload (pc := 36) dX11_move_36 rfl ?_
      refine kq_geto (pw := 25) (pc := 38) (by decide) dX11_move_38 fl_X11_235_7 sh_71 rfl (by unfold ge_Z; omega) ?_
      refine gq_if_eq (pc := 41) 52 dX11_move_41 (by decide) (fun h_41 => ?_) (fun h_41 => ?_)
      · exact absurd h_41 h1
      · refine gq_aload (pc := 44) dX11_move_44 rfl ?_
        refine kq_geto (pw := 25) (pc := 46) (by decide) dX11_move_46 fl_X11_235_7 sh_73 rfl (by unfold ge_Z; omega) ?_
        refine gq_if_ne (pc := 49) 58 dX11_move_49 (by decide) (fun h_49 => ?_) (fun h_49 => ?_)
        · refine gq_aload (pc := 58) dX11_move_58 rfl ?_
          refine kq_geto (pw := 25) (pc := 60) (by decide) dX11_move_60 fl_X11_235_7 sh_71 rfl (by unfold ge_Z; omega) ?_
          refine gq_aload (pc := 63) dX11_move_63 rfl ?_
          refine kq_geto (pw := 25) (pc := 65) (by decide) dX11_move_65 fl_X11_235_7 sh_73 rfl (by unfold ge_Z; omega) ?_
          refine gq_ic_eq (pc := 68) 77 dX11_move_68 (by decide) (fun h_68 => ?_) (fun h_68 => ?_)
          · refine gq_aload (pc := 77) dX11_move_77 rfl ?_
            refine gq_iload_n (pc := 79) dX11_move_79 rfl ?_
            refine gq_iload (pc := 80) dX11_move_80 rfl ?_
            refine gq_rV2i (pc := 82) dX11_move_82 cv_X11_293 sh_71 (r_holds_71 _ _) ⟨by decide, by decide⟩ rfl rfl (Nat.le_of_ble_eq_true rfl) ?_
            refine gq_if_eq (pc := 85) 100 dX11_move_85 (by decide) (fun h_85 => ?_) (fun h_85 => ?_)
            · exact absurd h_85 h4
            · refine gq_aload (pc := 88) dX11_move_88 rfl ?_
              refine gq_iload (pc := 90) dX11_move_90 rfl ?_
              refine gq_iload (pc := 92) dX11_move_92 rfl ?_
              refine gq_rV2i (pc := 94) dX11_move_94 cv_X11_293 sh_73 (r_holds_73 _ _) ⟨by decide, by decide⟩ rfl rfl (Nat.le_of_ble_eq_true rfl) ?_
              refine gq_if_ne (pc := 97) 106 dX11_move_97 (by decide) (fun h_97 => ?_) (fun h_97 => ?_)
              · refine gq_aload (pc := 106) dX11_move_106 rfl ?_
                refine gq_getr (pc := 108) dX11_move_108 fl_X11_297_7 sh_71 rfl ?_
                refine gq_iload_n (pc := 111) dX11_move_111 rfl ?_
                refine gq_aload (pc := 112) dX11_move_112 rfl ?_
                refine gq_getr (pc := 114) dX11_move_114 fl_X11_297_7 sh_73 rfl ?_
                refine gq_iload (pc := 117) dX11_move_117 rfl ?_
                refine gq_iload (pc := 119) dX11_move_119 rfl ?_
                refine kq_copy (pw := 25) (pc := 121) (by decide) (by decide) dX11_move_121 cc_X11_306 sh_72 sh_74 ea eb em q1 q2 (by decide) (by decide) (by decide) (Nat.le_of_ble_eq_true rfl) ?_
                refine gq_iload (pc := 124) dX11_move_124 rfl ?_
                exact gq_iret (pc := 126) rfl dX11_move_126 ⟨rfl, rfl⟩
              · exact absurd h_97 h5
          · exact absurd h3 h_68
        · exact absurd h_49 h2
    · exact absurd (show p_nt (p_in 3 0 3) = 0 by decide) h_11
set_option maxHeartbeats 400000 in
theorem c_move_no_3_0 {i j n : Int32} (h : g 73 2 = 0 ∨ g 67 2 = 0) : ge_N X ge_SH YX11_move 2 [.ref (ge_ad X.1 0), .int 3, .int i, .int 0, .int j, .int n] (ge_k g 25 r x hb) (some (.int (-1000000000 - 2))) (ge_k (ge_up g 75 2 (g 75 2 + 1)) 25 r x hb) := by
  refine gq_ofB (l := [(0, .ref (ge_ad X.1 0)), (1, .int 3), (2, .int i), (3, .int 0), (4, .int j), (5, .int n)]) (by decide) (Nat.le_of_ble_eq_true rfl) rfl ?_
  refine gq_iload_n (pc := 0) dX11_move_0 rfl ?_
  refine gq_rS1i (pc := 1) dX11_move_1 cs_X11_232 (c_noSheet _) ⟨by decide, by decide⟩ (Nat.le_of_ble_eq_true rfl) ?_
  refine gq_if_ne (pc := 4) 14 dX11_move_4 (by decide) (fun h_4 => ?_) (fun h_4 => ?_)
  · exact absurd h_4 (by decide)
  · refine gq_iload_n (pc := 7) dX11_move_7 rfl ?_
    refine gq_rS1i (pc := 8) dX11_move_8 cs_X11_232 (c_noSheet _) ⟨by decide, by decide⟩ (Nat.le_of_ble_eq_true rfl) ?_
    refine gq_if_eq (pc := 11) 20 dX11_move_11 (by decide) (fun h_11 => ?_) (fun h_11 => ?_)
    · refine gq_aload_n (pc := 20) dX11_move_20 rfl ?_
      refine gq_getr (pc := 21) dX11_move_21 fl_X11_89_11 sh_0 rfl ?_
      refine gq_iload_n (pc := 24) dX11_move_24 rfl ?_
      refine gq_aald (pc := 25) dX11_move_25 sh_66 rfl kl_3 rfl (by decide) ?_
      refine gq_astore (pc := 26) (l' := [(6, _), (0, _), (1, _), (2, _), (3, _), (4, _), (5, _)]) dX11_move_26 (by decide) rfl ?_
      refine gq_aload_n (pc := 28) dX11_move_28 rfl ?_
      refine gq_getr (pc := 29) dX11_move_29 fl_X11_89_11 sh_0 rfl ?_
      refine gq_iload_n (pc := 32) dX11_move_32 rfl ?_
      refine gq_aald (pc := 33) dX11_move_33 sh_66 rfl kl_0 rfl (by decide) ?_
      refine gq_astore (pc := 34) (l' := [(7, _), (6, _), (0, _), (1, _), (2, _), (3, _), (4, _), (5, _)]) dX11_move_34 (by decide) rfl ?_
      refine gq_aload (pc := 36) dX11_move_36 rfl ?_
      refine kq_geto (pw := 25) (pc := 38) (by decide) dX11_move_38 fl_X11_235_7 sh_73 rfl (by unfold ge_Z; omega) ?_
      refine gq_if_eq (pc := 41) 52 dX11_move_41 (by decide) (fun h_41 => ?_) (fun h_41 => ?_)
      · refine gq_aload_n (pc := 52) dX11_move_52 rfl ?_
        refine gq_iconst (pc := 53) dX11_move_53 kc_2 ?_
        refine gq_rV1i (pc := 54) dX11_move_54 cv_X11_109 sh_0 (c_error kl_2 (by decide)) ⟨by decide, by decide⟩ rfl rfl (Nat.le_of_ble_eq_true rfl) ?_
        exact gq_iret (pc := 57) rfl dX11_move_57 ⟨rfl, rfl⟩
      · refine gq_aload (pc := 44) dX11_move_44 rfl ?_
        refine kq_geto (pw := 25) (pc := 46) (by decide) dX11_move_46 fl_X11_235_7 sh_67 rfl (by unfold ge_Z; omega) ?_
        refine gq_if_ne (pc := 49) 58 dX11_move_49 (by decide) (fun h_49 => ?_) (fun h_49 => ?_)
        · exact (h.elim h_41 h_49).elim
        · refine gq_aload_n (pc := 52) dX11_move_52 rfl ?_
          refine gq_iconst (pc := 53) dX11_move_53 kc_2 ?_
          refine gq_rV1i (pc := 54) dX11_move_54 cv_X11_109 sh_0 (c_error kl_2 (by decide)) ⟨by decide, by decide⟩ rfl rfl (Nat.le_of_ble_eq_true rfl) ?_
          exact gq_iret (pc := 57) rfl dX11_move_57 ⟨rfl, rfl⟩
    · exact absurd (show p_nt (p_in 0 0 3) = 0 by decide) h_11
set_option maxHeartbeats 400000 in
theorem c_move_ki_3_0 {i j n : Int32} (h1 : ¬ g 73 2 = 0) (h2 : ¬ g 67 2 = 0) (h3 : ¬ g 73 2 = g 67 2) : ge_N X ge_SH YX11_move 2 [.ref (ge_ad X.1 0), .int 3, .int i, .int 0, .int j, .int n] (ge_k g 25 r x hb) (some (.int (-1000000000 - 5))) (ge_k (ge_up g 75 5 (g 75 5 + 1)) 25 r x hb) := by
  refine gq_ofB (l := [(0, .ref (ge_ad X.1 0)), (1, .int 3), (2, .int i), (3, .int 0), (4, .int j), (5, .int n)]) (by decide) (Nat.le_of_ble_eq_true rfl) rfl ?_
  refine gq_iload_n (pc := 0) dX11_move_0 rfl ?_
  refine gq_rS1i (pc := 1) dX11_move_1 cs_X11_232 (c_noSheet _) ⟨by decide, by decide⟩ (Nat.le_of_ble_eq_true rfl) ?_
  refine gq_if_ne (pc := 4) 14 dX11_move_4 (by decide) (fun h_4 => ?_) (fun h_4 => ?_)
  · exact absurd h_4 (by decide)
  · refine gq_iload_n (pc := 7) dX11_move_7 rfl ?_
    refine gq_rS1i (pc := 8) dX11_move_8 cs_X11_232 (c_noSheet _) ⟨by decide, by decide⟩ (Nat.le_of_ble_eq_true rfl) ?_
    refine gq_if_eq (pc := 11) 20 dX11_move_11 (by decide) (fun h_11 => ?_) (fun h_11 => ?_)
    · refine gq_aload_n (pc := 20) dX11_move_20 rfl ?_
      refine gq_getr (pc := 21) dX11_move_21 fl_X11_89_11 sh_0 rfl ?_
      refine gq_iload_n (pc := 24) dX11_move_24 rfl ?_
      refine gq_aald (pc := 25) dX11_move_25 sh_66 rfl kl_3 rfl (by decide) ?_
      refine gq_astore (pc := 26) (l' := [(6, _), (0, _), (1, _), (2, _), (3, _), (4, _), (5, _)]) dX11_move_26 (by decide) rfl ?_
      refine gq_aload_n (pc := 28) dX11_move_28 rfl ?_
      refine gq_getr (pc := 29) dX11_move_29 fl_X11_89_11 sh_0 rfl ?_
      refine gq_iload_n (pc := 32) dX11_move_32 rfl ?_
      refine gq_aald (pc := 33) dX11_move_33 sh_66 rfl kl_0 rfl (by decide) ?_
      refine gq_astore (pc := 34) (l' := [(7, _), (6, _), (0, _), (1, _), (2, _), (3, _), (4, _), (5, _)]) dX11_move_34 (by decide) rfl ?_
      refine gq_aload (pc := 36) dX11_move_36 rfl ?_
      refine kq_geto (pw := 25) (pc := 38) (by decide) dX11_move_38 fl_X11_235_7 sh_73 rfl (by unfold ge_Z; omega) ?_
      refine gq_if_eq (pc := 41) 52 dX11_move_41 (by decide) (fun h_41 => ?_) (fun h_41 => ?_)
      · exact absurd h_41 h1
      · refine gq_aload (pc := 44) dX11_move_44 rfl ?_
        refine kq_geto (pw := 25) (pc := 46) (by decide) dX11_move_46 fl_X11_235_7 sh_67 rfl (by unfold ge_Z; omega) ?_
        refine gq_if_ne (pc := 49) 58 dX11_move_49 (by decide) (fun h_49 => ?_) (fun h_49 => ?_)
        · refine gq_aload (pc := 58) dX11_move_58 rfl ?_
          refine kq_geto (pw := 25) (pc := 60) (by decide) dX11_move_60 fl_X11_235_7 sh_73 rfl (by unfold ge_Z; omega) ?_
          refine gq_aload (pc := 63) dX11_move_63 rfl ?_
          refine kq_geto (pw := 25) (pc := 65) (by decide) dX11_move_65 fl_X11_235_7 sh_67 rfl (by unfold ge_Z; omega) ?_
          refine gq_ic_eq (pc := 68) 77 dX11_move_68 (by decide) (fun h_68 => ?_) (fun h_68 => ?_)
          · exact absurd h_68 h3
          · refine gq_aload_n (pc := 71) dX11_move_71 rfl ?_
            refine gq_iconst (pc := 72) dX11_move_72 kc_5 ?_
            refine gq_rV1i (pc := 73) dX11_move_73 cv_X11_109 sh_0 (c_error kl_5 (by decide)) ⟨by decide, by decide⟩ rfl rfl (Nat.le_of_ble_eq_true rfl) ?_
            exact gq_iret (pc := 76) rfl dX11_move_76 ⟨rfl, rfl⟩
        · exact absurd h_49 h2
    · exact absurd (show p_nt (p_in 0 0 3) = 0 by decide) h_11
set_option maxHeartbeats 400000 in
theorem c_move_er2_3_0 {i j n : Int32} (h1 : ¬ g 73 2 = 0) (h2 : ¬ g 67 2 = 0) (h3 : g 73 2 = g 67 2) (h4 : p_hold (g 73 1) i n = 0 ∨ p_hold (g 67 1) j n = 0) : ge_N X ge_SH YX11_move 2 [.ref (ge_ad X.1 0), .int 3, .int i, .int 0, .int j, .int n] (ge_k g 25 r x hb) (some (.int (-1000000000 - 1))) (ge_k (ge_up g 75 1 (g 75 1 + 1)) 25 r x hb) := by
  refine gq_ofB (l := [(0, .ref (ge_ad X.1 0)), (1, .int 3), (2, .int i), (3, .int 0), (4, .int j), (5, .int n)]) (by decide) (Nat.le_of_ble_eq_true rfl) rfl ?_
  refine gq_iload_n (pc := 0) dX11_move_0 rfl ?_
  refine gq_rS1i (pc := 1) dX11_move_1 cs_X11_232 (c_noSheet _) ⟨by decide, by decide⟩ (Nat.le_of_ble_eq_true rfl) ?_
  refine gq_if_ne (pc := 4) 14 dX11_move_4 (by decide) (fun h_4 => ?_) (fun h_4 => ?_)
  · exact absurd h_4 (by decide)
  · refine gq_iload_n (pc := 7) dX11_move_7 rfl ?_
    refine gq_rS1i (pc := 8) dX11_move_8 cs_X11_232 (c_noSheet _) ⟨by decide, by decide⟩ (Nat.le_of_ble_eq_true rfl) ?_
    refine gq_if_eq (pc := 11) 20 dX11_move_11 (by decide) (fun h_11 => ?_) (fun h_11 => ?_)
    · refine gq_aload_n (pc := 20) dX11_move_20 rfl ?_
      refine gq_getr (pc := 21) dX11_move_21 fl_X11_89_11 sh_0 rfl ?_
      refine gq_iload_n (pc := 24) dX11_move_24 rfl ?_
      refine gq_aald (pc := 25) dX11_move_25 sh_66 rfl kl_3 rfl (by decide) ?_
      refine gq_astore (pc := 26) (l' := [(6, _), (0, _), (1, _), (2, _), (3, _), (4, _), (5, _)]) dX11_move_26 (by decide) rfl ?_
      refine gq_aload_n (pc := 28) dX11_move_28 rfl ?_
      refine gq_getr (pc := 29) dX11_move_29 fl_X11_89_11 sh_0 rfl ?_
      refine gq_iload_n (pc := 32) dX11_move_32 rfl ?_
      refine gq_aald (pc := 33) dX11_move_33 sh_66 rfl kl_0 rfl (by decide) ?_
      refine gq_astore (pc := 34) (l' := [(7, _), (6, _), (0, _), (1, _), (2, _), (3, _), (4, _), (5, _)]) dX11_move_34 (by decide) rfl ?_
      refine gq_aload (pc := 36) dX11_move_36 rfl ?_
      refine kq_geto (pw := 25) (pc := 38) (by decide) dX11_move_38 fl_X11_235_7 sh_73 rfl (by unfold ge_Z; omega) ?_
      refine gq_if_eq (pc := 41) 52 dX11_move_41 (by decide) (fun h_41 => ?_) (fun h_41 => ?_)
      · exact absurd h_41 h1
      · refine gq_aload (pc := 44) dX11_move_44 rfl ?_
        refine kq_geto (pw := 25) (pc := 46) (by decide) dX11_move_46 fl_X11_235_7 sh_67 rfl (by unfold ge_Z; omega) ?_
        refine gq_if_ne (pc := 49) 58 dX11_move_49 (by decide) (fun h_49 => ?_) (fun h_49 => ?_)
        · refine gq_aload (pc := 58) dX11_move_58 rfl ?_
          refine kq_geto (pw := 25) (pc := 60) (by decide) dX11_move_60 fl_X11_235_7 sh_73 rfl (by unfold ge_Z; omega) ?_
          refine gq_aload (pc := 63) dX11_move_63 rfl ?_
          refine kq_geto (pw := 25) (pc := 65) (by decide) dX11_move_65 fl_X11_235_7 sh_67 rfl (by unfold ge_Z; omega) ?_
          refine gq_ic_eq (pc := 68) 77 dX11_move_68 (by decide) (fun h_68 => ?_) (fun h_68 => ?_)
          · refine gq_aload (pc := 77) dX11_move_77 rfl ?_
            refine gq_iload_n (pc := 79) dX11_move_79 rfl ?_
            refine gq_iload (pc := 80) dX11_move_80 rfl ?_
            refine gq_rV2i (pc := 82) dX11_move_82 cv_X11_293 sh_73 (r_holds_73 _ _) ⟨by decide, by decide⟩ rfl rfl (Nat.le_of_ble_eq_true rfl) ?_
            refine gq_if_eq (pc := 85) 100 dX11_move_85 (by decide) (fun h_85 => ?_) (fun h_85 => ?_)
            · refine gq_aload_n (pc := 100) dX11_move_100 rfl ?_
              refine gq_iconst (pc := 101) dX11_move_101 kc_1 ?_
              refine gq_rV1i (pc := 102) dX11_move_102 cv_X11_109 sh_0 (c_error kl_1 (by decide)) ⟨by decide, by decide⟩ rfl rfl (Nat.le_of_ble_eq_true rfl) ?_
              exact gq_iret (pc := 105) rfl dX11_move_105 ⟨rfl, rfl⟩
            · refine gq_aload (pc := 88) dX11_move_88 rfl ?_
              refine gq_iload (pc := 90) dX11_move_90 rfl ?_
              refine gq_iload (pc := 92) dX11_move_92 rfl ?_
              refine gq_rV2i (pc := 94) dX11_move_94 cv_X11_293 sh_67 (r_holds_67 _ _) ⟨by decide, by decide⟩ rfl rfl (Nat.le_of_ble_eq_true rfl) ?_
              refine gq_if_ne (pc := 97) 106 dX11_move_97 (by decide) (fun h_97 => ?_) (fun h_97 => ?_)
              · exact (h4.elim h_85 h_97).elim
              · refine gq_aload_n (pc := 100) dX11_move_100 rfl ?_
                refine gq_iconst (pc := 101) dX11_move_101 kc_1 ?_
                refine gq_rV1i (pc := 102) dX11_move_102 cv_X11_109 sh_0 (c_error kl_1 (by decide)) ⟨by decide, by decide⟩ rfl rfl (Nat.le_of_ble_eq_true rfl) ?_
                exact gq_iret (pc := 105) rfl dX11_move_105 ⟨rfl, rfl⟩
          · exact absurd h3 h_68
        · exact absurd h_49 h2
    · exact absurd (show p_nt (p_in 0 0 3) = 0 by decide) h_11
set_option maxHeartbeats 400000 in
theorem c_move_ok_3_0 {i j n : Int32} (h1 : ¬ g 73 2 = 0) (h2 : ¬ g 67 2 = 0) (h3 : g 73 2 = g 67 2) (h4 : ¬ p_hold (g 73 1) i n = 0) (h5 : ¬ p_hold (g 67 1) j n = 0) {a b m : Nat} (ea : i = nI a) (eb : j = nI b) (em : n = nI m) (q1 : a + m ≤ 40) (q2 : b + m ≤ 40) : ge_N X ge_SH YX11_move 2 [.ref (ge_ad X.1 0), .int 3, .int i, .int 0, .int j, .int n] (ge_k g 25 r x hb) (some (.int n)) (ge_k (ge_row g 68 (va_cpy (g 74) (g 68) a b m)) 25 r x hb) := by
  refine gq_ofB (l := [(0, .ref (ge_ad X.1 0)), (1, .int 3), (2, .int i), (3, .int 0), (4, .int j), (5, .int n)]) (by decide) (Nat.le_of_ble_eq_true rfl) rfl ?_
  refine gq_iload_n (pc := 0) dX11_move_0 rfl ?_
  refine gq_rS1i (pc := 1) dX11_move_1 cs_X11_232 (c_noSheet _) ⟨by decide, by decide⟩ (Nat.le_of_ble_eq_true rfl) ?_
  refine gq_if_ne (pc := 4) 14 dX11_move_4 (by decide) (fun h_4 => ?_) (fun h_4 => ?_)
  · exact absurd h_4 (by decide)
  · refine gq_iload_n (pc := 7) dX11_move_7 rfl ?_
    refine gq_rS1i (pc := 8) dX11_move_8 cs_X11_232 (c_noSheet _) ⟨by decide, by decide⟩ (Nat.le_of_ble_eq_true rfl) ?_
    refine gq_if_eq (pc := 11) 20 dX11_move_11 (by decide) (fun h_11 => ?_) (fun h_11 => ?_)
    · refine gq_aload_n (pc := 20) dX11_move_20 rfl ?_
      refine gq_getr (pc := 21) dX11_move_21 fl_X11_89_11 sh_0 rfl ?_
      refine gq_iload_n (pc := 24) dX11_move_24 rfl ?_
      refine gq_aald (pc := 25) dX11_move_25 sh_66 rfl kl_3 rfl (by decide) ?_
      refine gq_astore (pc := 26) (l' := [(6, _), (0, _), (1, _), (2, _), (3, _), (4, _), (5, _)]) dX11_move_26 (by decide) rfl ?_
      refine gq_aload_n (pc := 28) dX11_move_28 rfl ?_
      refine gq_getr (pc := 29) dX11_move_29 fl_X11_89_11 sh_0 rfl ?_
      refine gq_iload_n (pc := 32) dX11_move_32 rfl ?_
      refine gq_aald (pc := 33) dX11_move_33 sh_66 rfl kl_0 rfl (by decide) ?_
      refine gq_astore (pc := 34) (l' := [(7, _), (6, _), (0, _), (1, _), (2, _), (3, _), (4, _), (5, _)]) dX11_move_34 (by decide) rfl ?_
      refine gq_aload (pc := 36) dX11_move_36 rfl ?_
      refine kq_geto (pw := 25) (pc := 38) (by decide) dX11_move_38 fl_X11_235_7 sh_73 rfl (by unfold ge_Z; omega) ?_
      refine gq_if_eq (pc := 41) 52 dX11_move_41 (by decide) (fun h_41 => ?_) (fun h_41 => ?_)
      · exact absurd h_41 h1
      · refine gq_aload (pc := 44) dX11_move_44 rfl ?_
        refine kq_geto (pw := 25) (pc := 46) (by decide) dX11_move_46 fl_X11_235_7 sh_67 rfl (by unfold ge_Z; omega) ?_
        refine gq_if_ne (pc := 49) 58 dX11_move_49 (by decide) (fun h_49 => ?_) (fun h_49 => ?_)
        · refine gq_aload (pc := 58) dX11_move_58 rfl ?_
          refine kq_geto (pw := 25) (pc := 60) (by decide) dX11_move_60 fl_X11_235_7 sh_73 rfl (by unfold ge_Z; omega) ?_
          refine gq_aload (pc := 63) dX11_move_63 rfl ?_
          refine kq_geto (pw := 25) (pc := 65) (by decide) dX11_move_65 fl_X11_235_7 sh_67 rfl (by unfold ge_Z; omega) ?_
          refine gq_ic_eq (pc := 68) 77 dX11_move_68 (by decide) (fun h_68 => ?_) (fun h_68 => ?_)
          · refine gq_aload (pc := 77) dX11_move_77 rfl ?_
            refine gq_iload_n (pc := 79) dX11_move_79 rfl ?_
            refine gq_iload (pc := 80) dX11_move_80 rfl ?_
            refine gq_rV2i (pc := 82) dX11_move_82 cv_X11_293 sh_73 (r_holds_73 _ _) ⟨by decide, by decide⟩ rfl rfl (Nat.le_of_ble_eq_true rfl) ?_
            refine gq_if_eq (pc := 85) 100 dX11_move_85 (by decide) (fun h_85 => ?_) (fun h_85 => ?_)
            · exact absurd h_85 h4
            · refine gq_aload (pc := 88) dX11_move_88 rfl ?_
              refine gq_iload (pc := 90) dX11_move_90 rfl ?_
              refine gq_iload (pc := 92) dX11_move_92 rfl ?_
              refine gq_rV2i (pc := 94) dX11_move_94 cv_X11_293 sh_67 (r_holds_67 _ _) ⟨by decide, by decide⟩ rfl rfl (Nat.le_of_ble_eq_true rfl) ?_
              refine gq_if_ne (pc := 97) 106 dX11_move_97 (by decide) (fun h_97 => ?_) (fun h_97 => ?_)
              · refine gq_aload (pc := 106) dX11_move_106 rfl ?_
                refine gq_getr (pc := 108) dX11_move_108 fl_X11_297_7 sh_73 rfl ?_
                refine gq_iload_n (pc := 111) dX11_move_111 rfl ?_
                refine gq_aload (pc := 112) dX11_move_112 rfl ?_
                refine gq_getr (pc := 114) dX11_move_114 fl_X11_297_7 sh_67 rfl ?_
                refine gq_iload (pc := 117) dX11_move_117 rfl ?_
                refine gq_iload (pc := 119) dX11_move_119 rfl ?_
                refine kq_copy (pw := 25) (pc := 121) (by decide) (by decide) dX11_move_121 cc_X11_306 sh_74 sh_68 ea eb em q1 q2 (by decide) (by decide) (by decide) (Nat.le_of_ble_eq_true rfl) ?_
                refine gq_iload (pc := 124) dX11_move_124 rfl ?_
                exact gq_iret (pc := 126) rfl dX11_move_126 ⟨rfl, rfl⟩
              · exact absurd h_97 h5
          · exact absurd h3 h_68
        · exact absurd h_49 h2
    · exact absurd (show p_nt (p_in 0 0 3) = 0 by decide) h_11
set_option maxHeartbeats 400000 in
theorem c_move_no_3_1 {i j n : Int32} (h : g 73 2 = 0 ∨ g 69 2 = 0) : ge_N X ge_SH YX11_move 2 [.ref (ge_ad X.1 0), .int 3, .int i, .int 1, .int j, .int n] (ge_k g 25 r x hb) (some (.int (-1000000000 - 2))) (ge_k (ge_up g 75 2 (g 75 2 + 1)) 25 r x hb) := by
  refine gq_ofB (l := [(0, .ref (ge_ad X.1 0)), (1, .int 3), (2, .int i), (3, .int 1), (4, .int j), (5, .int n)]) (by decide) (Nat.le_of_ble_eq_true rfl) rfl ?_
  refine gq_iload_n (pc := 0) dX11_move_0 rfl ?_
  refine gq_rS1i (pc := 1) dX11_move_1 cs_X11_232 (c_noSheet _) ⟨by decide, by decide⟩ (Nat.le_of_ble_eq_true rfl) ?_
  refine gq_if_ne (pc := 4) 14 dX11_move_4 (by decide) (fun h_4 => ?_) (fun h_4 => ?_)
  · exact absurd h_4 (by decide)
  · refine gq_iload_n (pc := 7) dX11_move_7 rfl ?_
    refine gq_rS1i (pc := 8) dX11_move_8 cs_X11_232 (c_noSheet _) ⟨by decide, by decide⟩ (Nat.le_of_ble_eq_true rfl) ?_
    refine gq_if_eq (pc := 11) 20 dX11_move_11 (by decide) (fun h_11 => ?_) (fun h_11 => ?_)
    · refine gq_aload_n (pc := 20) dX11_move_20 rfl ?_
      refine gq_getr (pc := 21) dX11_move_21 fl_X11_89_11 sh_0 rfl ?_
      refine gq_iload_n (pc := 24) dX11_move_24 rfl ?_
      refine gq_aald (pc := 25) dX11_move_25 sh_66 rfl kl_3 rfl (by decide) ?_
      refine gq_astore (pc := 26) (l' := [(6, _), (0, _), (1, _), (2, _), (3, _), (4, _), (5, _)]) dX11_move_26 (by decide) rfl ?_
      refine gq_aload_n (pc := 28) dX11_move_28 rfl ?_
      refine gq_getr (pc := 29) dX11_move_29 fl_X11_89_11 sh_0 rfl ?_
      refine gq_iload_n (pc := 32) dX11_move_32 rfl ?_
      refine gq_aald (pc := 33) dX11_move_33 sh_66 rfl kl_1 rfl (by decide) ?_
      refine gq_astore (pc := 34) (l' := [(7, _), (6, _), (0, _), (1, _), (2, _), (3, _), (4, _), (5, _)]) dX11_move_34 (by decide) rfl ?_
      refine gq_aload (pc := 36) dX11_move_36 rfl ?_
      refine kq_geto (pw := 25) (pc := 38) (by decide) dX11_move_38 fl_X11_235_7 sh_73 rfl (by unfold ge_Z; omega) ?_
      refine gq_if_eq (pc := 41) 52 dX11_move_41 (by decide) (fun h_41 => ?_) (fun h_41 => ?_)
      · refine gq_aload_n (pc := 52) dX11_move_52 rfl ?_
        refine gq_iconst (pc := 53) dX11_move_53 kc_2 ?_
        refine gq_rV1i (pc := 54) dX11_move_54 cv_X11_109 sh_0 (c_error kl_2 (by decide)) ⟨by decide, by decide⟩ rfl rfl (Nat.le_of_ble_eq_true rfl) ?_
        exact gq_iret (pc := 57) rfl dX11_move_57 ⟨rfl, rfl⟩
      · refine gq_aload (pc := 44) dX11_move_44 rfl ?_
        refine kq_geto (pw := 25) (pc := 46) (by decide) dX11_move_46 fl_X11_235_7 sh_69 rfl (by unfold ge_Z; omega) ?_
        refine gq_if_ne (pc := 49) 58 dX11_move_49 (by decide) (fun h_49 => ?_) (fun h_49 => ?_)
        · exact (h.elim h_41 h_49).elim
        · refine gq_aload_n (pc := 52) dX11_move_52 rfl ?_
          refine gq_iconst (pc := 53) dX11_move_53 kc_2 ?_
          refine gq_rV1i (pc := 54) dX11_move_54 cv_X11_109 sh_0 (c_error kl_2 (by decide)) ⟨by decide, by decide⟩ rfl rfl (Nat.le_of_ble_eq_true rfl) ?_
          exact gq_iret (pc := 57) rfl dX11_move_57 ⟨rfl, rfl⟩
    · exact absurd (show p_nt (p_in 1 0 3) = 0 by decide) h_11
set_option maxHeartbeats 400000 in
theorem c_move_ki_3_1 {i j n : Int32} (h1 : ¬ g 73 2 = 0) (h2 : ¬ g 69 2 = 0) (h3 : ¬ g 73 2 = g 69 2) : ge_N X ge_SH YX11_move 2 [.ref (ge_ad X.1 0), .int 3, .int i, .int 1, .int j, .int n] (ge_k g 25 r x hb) (some (.int (-1000000000 - 5))) (ge_k (ge_up g 75 5 (g 75 5 + 1)) 25 r x hb) := by
  refine gq_ofB (l := [(0, .ref (ge_ad X.1 0)), (1, .int 3), (2, .int i), (3, .int 1), (4, .int j), (5, .int n)]) (by decide) (Nat.le_of_ble_eq_true rfl) rfl ?_
  refine gq_iload_n (pc := 0) dX11_move_0 rfl ?_
  refine gq_rS1i (pc := 1) dX11_move_1 cs_X11_232 (c_noSheet _) ⟨by decide, by decide⟩ (Nat.le_of_ble_eq_true rfl) ?_
  refine gq_if_ne (pc := 4) 14 dX11_move_4 (by decide) (fun h_4 => ?_) (fun h_4 => ?_)
  · exact absurd h_4 (by decide)
  · refine gq_iload_n (pc := 7) dX11_move_7 rfl ?_
    refine gq_rS1i (pc := 8) dX11_move_8 cs_X11_232 (c_noSheet _) ⟨by decide, by decide⟩ (Nat.le_of_ble_eq_true rfl) ?_
    refine gq_if_eq (pc := 11) 20 dX11_move_11 (by decide) (fun h_11 => ?_) (fun h_11 => ?_)
    · refine gq_aload_n (pc := 20) dX11_move_20 rfl ?_
      refine gq_getr (pc := 21) dX11_move_21 fl_X11_89_11 sh_0 rfl ?_
      refine gq_iload_n (pc := 24) dX11_move_24 rfl ?_
      refine gq_aald (pc := 25) dX11_move_25 sh_66 rfl kl_3 rfl (by decide) ?_
      refine gq_astore (pc := 26) (l' := [(6, _), (0, _), (1, _), (2, _), (3, _), (4, _), (5, _)]) dX11_move_26 (by decide) rfl ?_
      refine gq_aload_n (pc := 28) dX11_move_28 rfl ?_
      refine gq_getr (pc := 29) dX11_move_29 fl_X11_89_11 sh_0 rfl ?_
      refine gq_iload_n (pc := 32) dX11_move_32 rfl ?_
      refine gq_aald (pc := 33) dX11_move_33 sh_66 rfl kl_1 rfl (by decide) ?_
      refine gq_astore (pc := 34) (l' := [(7, _), (6, _), (0, _), (1, _), (2, _), (3, _), (4, _), (5, _)]) dX11_move_34 (by decide) rfl ?_
      refine gq_aload (pc := 36) dX11_move_36 rfl ?_
      refine kq_geto (pw := 25) (pc := 38) (by decide) dX11_move_38 fl_X11_235_7 sh_73 rfl (by unfold ge_Z; omega) ?_
      refine gq_if_eq (pc := 41) 52 dX11_move_41 (by decide) (fun h_41 => ?_) (fun h_41 => ?_)
      · exact absurd h_41 h1
      · refine gq_aload (pc := 44) dX11_move_44 rfl ?_
        refine kq_geto (pw := 25) (pc := 46) (by decide) dX11_move_46 fl_X11_235_7 sh_69 rfl (by unfold ge_Z; omega) ?_
        refine gq_if_ne (pc := 49) 58 dX11_move_49 (by decide) (fun h_49 => ?_) (fun h_49 => ?_)
        · refine gq_aload (pc := 58) dX11_move_58 rfl ?_
          refine kq_geto (pw := 25) (pc := 60) (by decide) dX11_move_60 fl_X11_235_7 sh_73 rfl (by unfold ge_Z; omega) ?_
          refine gq_aload (pc := 63) dX11_move_63 rfl ?_
          refine kq_geto (pw := 25) (pc := 65) (by decide) dX11_move_65 fl_X11_235_7 sh_69 rfl (by unfold ge_Z; omega) ?_
          refine gq_ic_eq (pc := 68) 77 dX11_move_68 (by decide) (fun h_68 => ?_) (fun h_68 => ?_)
          · exact absurd h_68 h3
          · refine gq_aload_n (pc := 71) dX11_move_71 rfl ?_
            refine gq_iconst (pc := 72) dX11_move_72 kc_5 ?_
            refine gq_rV1i (pc := 73) dX11_move_73 cv_X11_109 sh_0 (c_error kl_5 (by decide)) ⟨by decide, by decide⟩ rfl rfl (Nat.le_of_ble_eq_true rfl) ?_
            exact gq_iret (pc := 76) rfl dX11_move_76 ⟨rfl, rfl⟩
        · exact absurd h_49 h2
    · exact absurd (show p_nt (p_in 1 0 3) = 0 by decide) h_11
set_option maxHeartbeats 400000 in
theorem c_move_er2_3_1 {i j n : Int32} (h1 : ¬ g 73 2 = 0) (h2 : ¬ g 69 2 = 0) (h3 : g 73 2 = g 69 2) (h4 : p_hold (g 73 1) i n = 0 ∨ p_hold (g 69 1) j n = 0) : ge_N X ge_SH YX11_move 2 [.ref (ge_ad X.1 0), .int 3, .int i, .int 1, .int j, .int n] (ge_k g 25 r x hb) (some (.int (-1000000000 - 1))) (ge_k (ge_up g 75 1 (g 75 1 + 1)) 25 r x hb) := by
  refine gq_ofB (l := [(0, .ref (ge_ad X.1 0)), (1, .int 3), (2, .int i), (3, .int 1), (4, .int j), (5, .int n)]) (by decide) (Nat.le_of_ble_eq_true rfl) rfl ?_
  refine gq_iload_n (pc := 0) dX11_move_0 rfl ?_
  refine gq_rS1i (pc := 1) dX11_move_1 cs_X11_232 (c_noSheet _) ⟨by decide, by decide⟩ (Nat.le_of_ble_eq_true rfl) ?_
  refine gq_if_ne (pc := 4) 14 dX11_move_4 (by decide) (fun h_4 => ?_) (fun h_4 => ?_)
  · exact absurd h_4 (by decide)
  · refine gq_iload_n (pc := 7) dX11_move_7 rfl ?_
    refine gq_rS1i (pc := 8) dX11_move_8 cs_X11_232 (c_noSheet _) ⟨by decide, by decide⟩ (Nat.le_of_ble_eq_true rfl) ?_
    refine gq_if_eq (pc := 11) 20 dX11_move_11 (by decide) (fun h_11 => ?_) (fun h_11 => ?_)
    · refine gq_aload_n (pc := 20) dX11_move_20 rfl ?_
      refine gq_getr (pc := 21) dX11_move_21 fl_X11_89_11 sh_0 rfl ?_
      refine gq_iload_n (pc := 24) dX11_move_24 rfl ?_
      refine gq_aald (pc := 25) dX11_move_25 sh_66 rfl kl_3 rfl (by decide) ?_
      refine gq_astore (pc := 26) (l' := [(6, _), (0, _), (1, _), (2, _), (3, _), (4, _), (5, _)]) dX11_move_26 (by decide) rfl ?_
      refine gq_aload_n (pc := 28) dX11_move_28 rfl ?_
      refine gq_getr (pc := 29) dX11_move_29 fl_X11_89_11 sh_0 rfl ?_
      refine gq_iload_n (pc := 32) dX11_move_32 rfl ?_
      refine gq_aald (pc := 33) dX11_move_33 sh_66 rfl kl_1 rfl (by decide) ?_
      refine gq_astore (pc := 34) (l' := [(7, _), (6, _), (0, _), (1, _), (2, _), (3, _), (4, _), (5, _)]) dX11_move_34 (by decide) rfl ?_
      refine gq_aload (pc := 36) dX11_move_36 rfl ?_
      refine kq_geto (pw := 25) (pc := 38) (by decide) dX11_move_38 fl_X11_235_7 sh_73 rfl (by unfold ge_Z; omega) ?_
      refine gq_if_eq (pc := 41) 52 dX11_move_41 (by decide) (fun h_41 => ?_) (fun h_41 => ?_)
      · exact absurd h_41 h1
      · refine gq_aload (pc := 44) dX11_move_44 rfl ?_
        refine kq_geto (pw := 25) (pc := 46) (by decide) dX11_move_46 fl_X11_235_7 sh_69 rfl (by unfold ge_Z; omega) ?_
        refine gq_if_ne (pc := 49) 58 dX11_move_49 (by decide) (fun h_49 => ?_) (fun h_49 => ?_)
        · refine gq_aload (pc := 58) dX11_move_58 rfl ?_
          refine kq_geto (pw := 25) (pc := 60) (by decide) dX11_move_60 fl_X11_235_7 sh_73 rfl (by unfold ge_Z; omega) ?_
          refine gq_aload (pc := 63) dX11_move_63 rfl ?_
          refine kq_geto (pw := 25) (pc := 65) (by decide) dX11_move_65 fl_X11_235_7 sh_69 rfl (by unfold ge_Z; omega) ?_
          refine gq_ic_eq (pc := 68) 77 dX11_move_68 (by decide) (fun h_68 => ?_) (fun h_68 => ?_)
          · refine gq_aload (pc := 77) dX11_move_77 rfl ?_
            refine gq_iload_n (pc := 79) dX11_move_79 rfl ?_
            refine gq_iload (pc := 80) dX11_move_80 rfl ?_
            refine gq_rV2i (pc := 82) dX11_move_82 cv_X11_293 sh_73 (r_holds_73 _ _) ⟨by decide, by decide⟩ rfl rfl (Nat.le_of_ble_eq_true rfl) ?_
            refine gq_if_eq (pc := 85) 100 dX11_move_85 (by decide) (fun h_85 => ?_) (fun h_85 => ?_)
            · refine gq_aload_n (pc := 100) dX11_move_100 rfl ?_
              refine gq_iconst (pc := 101) dX11_move_101 kc_1 ?_
              refine gq_rV1i (pc := 102) dX11_move_102 cv_X11_109 sh_0 (c_error kl_1 (by decide)) ⟨by decide, by decide⟩ rfl rfl (Nat.le_of_ble_eq_true rfl) ?_
              exact gq_iret (pc := 105) rfl dX11_move_105 ⟨rfl, rfl⟩
            · refine gq_aload (pc := 88) dX11_move_88 rfl ?_
              refine gq_iload (pc := 90) dX11_move_90 rfl ?_
              refine gq_iload (pc := 92) dX11_move_92 rfl ?_
              refine gq_rV2i (pc := 94) dX11_move_94 cv_X11_293 sh_69 (r_holds_69 _ _) ⟨by decide, by decide⟩ rfl rfl (Nat.le_of_ble_eq_true rfl) ?_
              refine gq_if_ne (pc := 97) 106 dX11_move_97 (by decide) (fun h_97 => ?_) (fun h_97 => ?_)
              · exact (h4.elim h_85 h_97).elim
              · refine gq_aload_n (pc := 100) dX11_move_100 rfl ?_
                refine gq_iconst (pc := 101) dX11_move_101 kc_1 ?_
                refine gq_rV1i (pc := 102) dX11_move_102 cv_X11_109 sh_0 (c_error kl_1 (by decide)) ⟨by decide, by decide⟩ rfl rfl (Nat.le_of_ble_eq_true rfl) ?_
                exact gq_iret (pc := 105) rfl dX11_move_105 ⟨rfl, rfl⟩
          · exact absurd h3 h_68
        · exact absurd h_49 h2
    · exact absurd (show p_nt (p_in 1 0 3) = 0 by decide) h_11
set_option maxHeartbeats 400000 in
theorem c_move_ok_3_1 {i j n : Int32} (h1 : ¬ g 73 2 = 0) (h2 : ¬ g 69 2 = 0) (h3 : g 73 2 = g 69 2) (h4 : ¬ p_hold (g 73 1) i n = 0) (h5 : ¬ p_hold (g 69 1) j n = 0) {a b m : Nat} (ea : i = nI a) (eb : j = nI b) (em : n = nI m) (q1 : a + m ≤ 40) (q2 : b + m ≤ 40) : ge_N X ge_SH YX11_move 2 [.ref (ge_ad X.1 0), .int 3, .int i, .int 1, .int j, .int n] (ge_k g 25 r x hb) (some (.int n)) (ge_k (ge_row g 70 (va_cpy (g 74) (g 70) a b m)) 25 r x hb) := by
  refine gq_ofB (l := [(0, .ref (ge_ad X.1 0)), (1, .int 3), (2, .int i), (3, .int 1), (4, .int j), (5, .int n)]) (by decide) (Nat.le_of_ble_eq_true rfl) rfl ?_
  refine gq_iload_n (pc := 0) dX11_move_0 rfl ?_
  refine gq_rS1i (pc := 1) dX11_move_1 cs_X11_232 (c_noSheet _) ⟨by decide, by decide⟩ (Nat.le_of_ble_eq_true rfl) ?_
  refine gq_if_ne (pc := 4) 14 dX11_move_4 (by decide) (fun h_4 => ?_) (fun h_4 => ?_)
  · exact absurd h_4 (by decide)
  · refine gq_iload_n (pc := 7) dX11_move_7 rfl ?_
    refine gq_rS1i (pc := 8) dX11_move_8 cs_X11_232 (c_noSheet _) ⟨by decide, by decide⟩ (Nat.le_of_ble_eq_true rfl) ?_
    refine gq_if_eq (pc := 11) 20 dX11_move_11 (by decide) (fun h_11 => ?_) (fun h_11 => ?_)
    · refine gq_aload_n (pc := 20) dX11_move_20 rfl ?_
      refine gq_getr (pc := 21) dX11_move_21 fl_X11_89_11 sh_0 rfl ?_
      refine gq_iload_n (pc := 24) dX11_move_24 rfl ?_
      refine gq_aald (pc := 25) dX11_move_25 sh_66 rfl kl_3 rfl (by decide) ?_
      refine gq_astore (pc := 26) (l' := [(6, _), (0, _), (1, _), (2, _), (3, _), (4, _), (5, _)]) dX11_move_26 (by decide) rfl ?_
      refine gq_aload_n (pc := 28) dX11_move_28 rfl ?_
      refine gq_getr (pc := 29) dX11_move_29 fl_X11_89_11 sh_0 rfl ?_
      refine gq_iload_n (pc := 32) dX11_move_32 rfl ?_
      refine gq_aald (pc := 33) dX11_move_33 sh_66 rfl kl_1 rfl (by decide) ?_
      refine gq_astore (pc := 34) (l' := [(7, _), (6, _), (0, _), (1, _), (2, _), (3, _), (4, _), (5, _)]) dX11_move_34 (by decide) rfl ?_
      refine gq_aload (pc := 36) dX11_move_36 rfl ?_
      refine kq_geto (pw := 25) (pc := 38) (by decide) dX11_move_38 fl_X11_235_7 sh_73 rfl (by unfold ge_Z; omega) ?_
      refine gq_if_eq (pc := 41) 52 dX11_move_41 (by decide) (fun h_41 => ?_) (fun h_41 => ?_)
      · exact absurd h_41 h1
      · refine gq_aload (pc := 44) dX11_move_44 rfl ?_
        refine kq_geto (pw := 25) (pc := 46) (by decide) dX11_move_46 fl_X11_235_7 sh_69 rfl (by unfold ge_Z; omega) ?_
        refine gq_if_ne (pc := 49) 58 dX11_move_49 (by decide) (fun h_49 => ?_) (fun h_49 => ?_)
        · refine gq_aload (pc := 58) dX11_move_58 rfl ?_
          refine kq_geto (pw := 25) (pc := 60) (by decide) dX11_move_60 fl_X11_235_7 sh_73 rfl (by unfold ge_Z; omega) ?_
          refine gq_aload (pc := 63) dX11_move_63 rfl ?_
          refine kq_geto (pw := 25) (pc := 65) (by decide) dX11_move_65 fl_X11_235_7 sh_69 rfl (by unfold ge_Z; omega) ?_
          refine gq_ic_eq (pc := 68) 77 dX11_move_68 (by decide) (fun h_68 => ?_) (fun h_68 => ?_)
          · refine gq_aload (pc := 77) dX11_move_77 rfl ?_
            refine gq_iload_n (pc := 79) dX11_move_79 rfl ?_
            refine gq_iload (pc := 80) dX11_move_80 rfl ?_
            refine gq_rV2i (pc := 82) dX11_move_82 cv_X11_293 sh_73 (r_holds_73 _ _) ⟨by decide, by decide⟩ rfl rfl (Nat.le_of_ble_eq_true rfl) ?_
            refine gq_if_eq (pc := 85) 100 dX11_move_85 (by decide) (fun h_85 => ?_) (fun h_85 => ?_)
            · exact absurd h_85 h4
            · refine gq_aload (pc := 88) dX11_move_88 rfl ?_
              refine gq_iload (pc := 90) dX11_move_90 rfl ?_
              refine gq_iload (pc := 92) dX11_move_92 rfl ?_
              refine gq_rV2i (pc := 94) dX11_move_94 cv_X11_293 sh_69 (r_holds_69 _ _) ⟨by decide, by decide⟩ rfl rfl (Nat.le_of_ble_eq_true rfl) ?_
              refine gq_if_ne (pc := 97) 106 dX11_move_97 (by decide) (fun h_97 => ?_) (fun h_97 => ?_)
              · refine gq_aload (pc := 106) dX11_move_106 rfl ?_
                refine gq_getr (pc := 108) dX11_move_108 fl_X11_297_7 sh_73 rfl ?_
                refine gq_iload_n (pc := 111) dX11_move_111 rfl ?_
                refine gq_aload (pc := 112) dX11_move_112 rfl ?_
                refine gq_getr (pc := 114) dX11_move_114 fl_X11_297_7 sh_69 rfl ?_
                refine gq_iload (pc := 117) dX11_move_117 rfl ?_
                refine gq_iload (pc := 119) dX11_move_119 rfl ?_
                refine kq_copy (pw := 25) (pc := 121) (by decide) (by decide) dX11_move_121 cc_X11_306 sh_74 sh_70 ea eb em q1 q2 (by decide) (by decide) (by decide) (Nat.le_of_ble_eq_true rfl) ?_
                refine gq_iload (pc := 124) dX11_move_124 rfl ?_
                exact gq_iret (pc := 126) rfl dX11_move_126 ⟨rfl, rfl⟩
              · exact absurd h_97 h5
          · exact absurd h3 h_68
        · exact absurd h_49 h2
    · exact absurd (show p_nt (p_in 1 0 3) = 0 by decide) h_11
set_option maxHeartbeats 400000 in
theorem c_move_no_3_2 {i j n : Int32} (h : g 73 2 = 0 ∨ g 71 2 = 0) : ge_N X ge_SH YX11_move 2 [.ref (ge_ad X.1 0), .int 3, .int i, .int 2, .int j, .int n] (ge_k g 25 r x hb) (some (.int (-1000000000 - 2))) (ge_k (ge_up g 75 2 (g 75 2 + 1)) 25 r x hb) := by
  refine gq_ofB (l := [(0, .ref (ge_ad X.1 0)), (1, .int 3), (2, .int i), (3, .int 2), (4, .int j), (5, .int n)]) (by decide) (Nat.le_of_ble_eq_true rfl) rfl ?_
  refine gq_iload_n (pc := 0) dX11_move_0 rfl ?_
  refine gq_rS1i (pc := 1) dX11_move_1 cs_X11_232 (c_noSheet _) ⟨by decide, by decide⟩ (Nat.le_of_ble_eq_true rfl) ?_
  refine gq_if_ne (pc := 4) 14 dX11_move_4 (by decide) (fun h_4 => ?_) (fun h_4 => ?_)
  · exact absurd h_4 (by decide)
  · refine gq_iload_n (pc := 7) dX11_move_7 rfl ?_
    refine gq_rS1i (pc := 8) dX11_move_8 cs_X11_232 (c_noSheet _) ⟨by decide, by decide⟩ (Nat.le_of_ble_eq_true rfl) ?_
    refine gq_if_eq (pc := 11) 20 dX11_move_11 (by decide) (fun h_11 => ?_) (fun h_11 => ?_)
    · refine gq_aload_n (pc := 20) dX11_move_20 rfl ?_
      refine gq_getr (pc := 21) dX11_move_21 fl_X11_89_11 sh_0 rfl ?_
      refine gq_iload_n (pc := 24) dX11_move_24 rfl ?_
      refine gq_aald (pc := 25) dX11_move_25 sh_66 rfl kl_3 rfl (by decide) ?_
      refine gq_astore (pc := 26) (l' := [(6, _), (0, _), (1, _), (2, _), (3, _), (4, _), (5, _)]) dX11_move_26 (by decide) rfl ?_
      refine gq_aload_n (pc := 28) dX11_move_28 rfl ?_
      refine gq_getr (pc := 29) dX11_move_29 fl_X11_89_11 sh_0 rfl ?_
      refine gq_iload_n (pc := 32) dX11_move_32 rfl ?_
      refine gq_aald (pc := 33) dX11_move_33 sh_66 rfl kl_2 rfl (by decide) ?_
      refine gq_astore (pc := 34) (l' := [(7, _), (6, _), (0, _), (1, _), (2, _), (3, _), (4, _), (5, _)]) dX11_move_34 (by decide) rfl ?_
      refine gq_aload (pc := 36) dX11_move_36 rfl ?_
      refine kq_geto (pw := 25) (pc := 38) (by decide) dX11_move_38 fl_X11_235_7 sh_73 rfl (by unfold ge_Z; omega) ?_
      refine gq_if_eq (pc := 41) 52 dX11_move_41 (by decide) (fun h_41 => ?_) (fun h_41 => ?_)
      · refine gq_aload_n (pc := 52) dX11_move_52 rfl ?_
        refine gq_iconst (pc := 53) dX11_move_53 kc_2 ?_
        refine gq_rV1i (pc := 54) dX11_move_54 cv_X11_109 sh_0 (c_error kl_2 (by decide)) ⟨by decide, by decide⟩ rfl rfl (Nat.le_of_ble_eq_true rfl) ?_
        exact gq_iret (pc := 57) rfl dX11_move_57 ⟨rfl, rfl⟩
      · refine gq_aload (pc := 44) dX11_move_44 rfl ?_
        refine kq_geto (pw := 25) (pc := 46) (by decide) dX11_move_46 fl_X11_235_7 sh_71 rfl (by unfold ge_Z; omega) ?_
        refine gq_if_ne (pc := 49) 58 dX11_move_49 (by decide) (fun h_49 => ?_) (fun h_49 => ?_)
        · exact (h.elim h_41 h_49).elim
        · refine gq_aload_n (pc := 52) dX11_move_52 rfl ?_
          refine gq_iconst (pc := 53) dX11_move_53 kc_2 ?_
          refine gq_rV1i (pc := 54) dX11_move_54 cv_X11_109 sh_0 (c_error kl_2 (by decide)) ⟨by decide, by decide⟩ rfl rfl (Nat.le_of_ble_eq_true rfl) ?_
          exact gq_iret (pc := 57) rfl dX11_move_57 ⟨rfl, rfl⟩
    · exact absurd (show p_nt (p_in 2 0 3) = 0 by decide) h_11
set_option maxHeartbeats 400000 in
theorem c_move_ki_3_2 {i j n : Int32} (h1 : ¬ g 73 2 = 0) (h2 : ¬ g 71 2 = 0) (h3 : ¬ g 73 2 = g 71 2) : ge_N X ge_SH YX11_move 2 [.ref (ge_ad X.1 0), .int 3, .int i, .int 2, .int j, .int n] (ge_k g 25 r x hb) (some (.int (-1000000000 - 5))) (ge_k (ge_up g 75 5 (g 75 5 + 1)) 25 r x hb) := by
  refine gq_ofB (l := [(0, .ref (ge_ad X.1 0)), (1, .int 3), (2, .int i), (3, .int 2), (4, .int j), (5, .int n)]) (by decide) (Nat.le_of_ble_eq_true rfl) rfl ?_
  refine gq_iload_n (pc := 0) dX11_move_0 rfl ?_
  refine gq_rS1i (pc := 1) dX11_move_1 cs_X11_232 (c_noSheet _) ⟨by decide, by decide⟩ (Nat.le_of_ble_eq_true rfl) ?_
  refine gq_if_ne (pc := 4) 14 dX11_move_4 (by decide) (fun h_4 => ?_) (fun h_4 => ?_)
  · exact absurd h_4 (by decide)
  · refine gq_iload_n (pc := 7) dX11_move_7 rfl ?_
    refine gq_rS1i (pc := 8) dX11_move_8 cs_X11_232 (c_noSheet _) ⟨by decide, by decide⟩ (Nat.le_of_ble_eq_true rfl) ?_
    refine gq_if_eq (pc := 11) 20 dX11_move_11 (by decide) (fun h_11 => ?_) (fun h_11 => ?_)
    · refine gq_aload_n (pc := 20) dX11_move_20 rfl ?_
      refine gq_getr (pc := 21) dX11_move_21 fl_X11_89_11 sh_0 rfl ?_
      refine gq_iload_n (pc := 24) dX11_move_24 rfl ?_
      refine gq_aald (pc := 25) dX11_move_25 sh_66 rfl kl_3 rfl (by decide) ?_
      refine gq_astore (pc := 26) (l' := [(6, _), (0, _), (1, _), (2, _), (3, _), (4, _), (5, _)]) dX11_move_26 (by decide) rfl ?_
      refine gq_aload_n (pc := 28) dX11_move_28 rfl ?_
      refine gq_getr (pc := 29) dX11_move_29 fl_X11_89_11 sh_0 rfl ?_
      refine gq_iload_n (pc := 32) dX11_move_32 rfl ?_
      refine gq_aald (pc := 33) dX11_move_33 sh_66 rfl kl_2 rfl (by decide) ?_
      refine gq_astore (pc := 34) (l' := [(7, _), (6, _), (0, _), (1, _), (2, _), (3, _), (4, _), (5, _)]) dX11_move_34 (by decide) rfl ?_
      refine gq_aload (pc := 36) dX11_move_36 rfl ?_
      refine kq_geto (pw := 25) (pc := 38) (by decide) dX11_move_38 fl_X11_235_7 sh_73 rfl (by unfold ge_Z; omega) ?_
      refine gq_if_eq (pc := 41) 52 dX11_move_41 (by decide) (fun h_41 => ?_) (fun h_41 => ?_)
      · exact absurd h_41 h1
      · refine gq_aload (pc := 44) dX11_move_44 rfl ?_
        refine kq_geto (pw := 25) (pc := 46) (by decide) dX11_move_46 fl_X11_235_7 sh_71 rfl (by unfold ge_Z; omega) ?_
        refine gq_if_ne (pc := 49) 58 dX11_move_49 (by decide) (fun h_49 => ?_) (fun h_49 => ?_)
        · refine gq_aload (pc := 58) dX11_move_58 rfl ?_
          refine kq_geto (pw := 25) (pc := 60) (by decide) dX11_move_60 fl_X11_235_7 sh_73 rfl (by unfold ge_Z; omega) ?_
          refine gq_aload (pc := 63) dX11_move_63 rfl ?_
          refine kq_geto (pw := 25) (pc := 65) (by decide) dX11_move_65 fl_X11_235_7 sh_71 rfl (by unfold ge_Z; omega) ?_
          refine gq_ic_eq (pc := 68) 77 dX11_move_68 (by decide) (fun h_68 => ?_) (fun h_68 => ?_)
          · exact absurd h_68 h3
          · refine gq_aload_n (pc := 71) dX11_move_71 rfl ?_
            refine gq_iconst (pc := 72) dX11_move_72 kc_5 ?_
            refine gq_rV1i (pc := 73) dX11_move_73 cv_X11_109 sh_0 (c_error kl_5 (by decide)) ⟨by decide, by decide⟩ rfl rfl (Nat.le_of_ble_eq_true rfl) ?_
            exact gq_iret (pc := 76) rfl dX11_move_76 ⟨rfl, rfl⟩
        · exact absurd h_49 h2
    · exact absurd (show p_nt (p_in 2 0 3) = 0 by decide) h_11
set_option maxHeartbeats 400000 in
theorem c_move_er2_3_2 {i j n : Int32} (h1 : ¬ g 73 2 = 0) (h2 : ¬ g 71 2 = 0) (h3 : g 73 2 = g 71 2) (h4 : p_hold (g 73 1) i n = 0 ∨ p_hold (g 71 1) j n = 0) : ge_N X ge_SH YX11_move 2 [.ref (ge_ad X.1 0), .int 3, .int i, .int 2, .int j, .int n] (ge_k g 25 r x hb) (some (.int (-1000000000 - 1))) (ge_k (ge_up g 75 1 (g 75 1 + 1)) 25 r x hb) := by
  refine gq_ofB (l := [(0, .ref (ge_ad X.1 0)), (1, .int 3), (2, .int i), (3, .int 2), (4, .int j), (5, .int n)]) (by decide) (Nat.le_of_ble_eq_true rfl) rfl ?_
  refine gq_iload_n (pc := 0) dX11_move_0 rfl ?_
  refine gq_rS1i (pc := 1) dX11_move_1 cs_X11_232 (c_noSheet _) ⟨by decide, by decide⟩ (Nat.le_of_ble_eq_true rfl) ?_
  refine gq_if_ne (pc := 4) 14 dX11_move_4 (by decide) (fun h_4 => ?_) (fun h_4 => ?_)
  · exact absurd h_4 (by decide)
  · refine gq_iload_n (pc := 7) dX11_move_7 rfl ?_
    refine gq_rS1i (pc := 8) dX11_move_8 cs_X11_232 (c_noSheet _) ⟨by decide, by decide⟩ (Nat.le_of_ble_eq_true rfl) ?_
    refine gq_if_eq (pc := 11) 20 dX11_move_11 (by decide) (fun h_11 => ?_) (fun h_11 => ?_)
    · refine gq_aload_n (pc := 20) dX11_move_20 rfl ?_
      refine gq_getr (pc := 21) dX11_move_21 fl_X11_89_11 sh_0 rfl ?_
      refine gq_iload_n (pc := 24) dX11_move_24 rfl ?_
      refine gq_aald (pc := 25) dX11_move_25 sh_66 rfl kl_3 rfl (by decide) ?_
      refine gq_astore (pc := 26) (l' := [(6, _), (0, _), (1, _), (2, _), (3, _), (4, _), (5, _)]) dX11_move_26 (by decide) rfl ?_
      refine gq_aload_n (pc := 28) dX11_move_28 rfl ?_
      refine gq_getr (pc := 29) dX11_move_29 fl_X11_89_11 sh_0 rfl ?_
      refine gq_iload_n (pc := 32) dX11_move_32 rfl ?_
      refine gq_aald (pc := 33) dX11_move_33 sh_66 rfl kl_2 rfl (by decide) ?_
      refine gq_astore (pc := 34) (l' := [(7, _), (6, _), (0, _), (1, _), (2, _), (3, _), (4, _), (5, _)]) dX11_move_34 (by decide) rfl ?_
      refine gq_aload (pc := 36) dX11_move_36 rfl ?_
      refine kq_geto (pw := 25) (pc := 38) (by decide) dX11_move_38 fl_X11_235_7 sh_73 rfl (by unfold ge_Z; omega) ?_
      refine gq_if_eq (pc := 41) 52 dX11_move_41 (by decide) (fun h_41 => ?_) (fun h_41 => ?_)
      · exact absurd h_41 h1
      · refine gq_aload (pc := 44) dX11_move_44 rfl ?_
        refine kq_geto (pw := 25) (pc := 46) (by decide) dX11_move_46 fl_X11_235_7 sh_71 rfl (by unfold ge_Z; omega) ?_
        refine gq_if_ne (pc := 49) 58 dX11_move_49 (by decide) (fun h_49 => ?_) (fun h_49 => ?_)
        · refine gq_aload (pc := 58) dX11_move_58 rfl ?_
          refine kq_geto (pw := 25) (pc := 60) (by decide) dX11_move_60 fl_X11_235_7 sh_73 rfl (by unfold ge_Z; omega) ?_
          refine gq_aload (pc := 63) dX11_move_63 rfl ?_
          refine kq_geto (pw := 25) (pc := 65) (by decide) dX11_move_65 fl_X11_235_7 sh_71 rfl (by unfold ge_Z; omega) ?_
          refine gq_ic_eq (pc := 68) 77 dX11_move_68 (by decide) (fun h_68 => ?_) (fun h_68 => ?_)
          · refine gq_aload (pc := 77) dX11_move_77 rfl ?_
            refine gq_iload_n (pc := 79) dX11_move_79 rfl ?_
            refine gq_iload (pc := 80) dX11_move_80 rfl ?_
            refine gq_rV2i (pc := 82) dX11_move_82 cv_X11_293 sh_73 (r_holds_73 _ _) ⟨by decide, by decide⟩ rfl rfl (Nat.le_of_ble_eq_true rfl) ?_
            refine gq_if_eq (pc := 85) 100 dX11_move_85 (by decide) (fun h_85 => ?_) (fun h_85 => ?_)
            · refine gq_aload_n (pc := 100) dX11_move_100 rfl ?_
              refine gq_iconst (pc := 101) dX11_move_101 kc_1 ?_
              refine gq_rV1i (pc := 102) dX11_move_102 cv_X11_109 sh_0 (c_error kl_1 (by decide)) ⟨by decide, by decide⟩ rfl rfl (Nat.le_of_ble_eq_true rfl) ?_
              exact gq_iret (pc := 105) rfl dX11_move_105 ⟨rfl, rfl⟩
            · refine gq_aload (pc := 88) dX11_move_88 rfl ?_
              refine gq_iload (pc := 90) dX11_move_90 rfl ?_
              refine gq_iload (pc := 92) dX11_move_92 rfl ?_
              refine gq_rV2i (pc := 94) dX11_move_94 cv_X11_293 sh_71 (r_holds_71 _ _) ⟨by decide, by decide⟩ rfl rfl (Nat.le_of_ble_eq_true rfl) ?_
              refine gq_if_ne (pc := 97) 106 dX11_move_97 (by decide) (fun h_97 => ?_) (fun h_97 => ?_)
              · exact (h4.elim h_85 h_97).elim
              · refine gq_aload_n (pc := 100) dX11_move_100 rfl ?_
                refine gq_iconst (pc := 101) dX11_move_101 kc_1 ?_
                refine gq_rV1i (pc := 102) dX11_move_102 cv_X11_109 sh_0 (c_error kl_1 (by decide)) ⟨by decide, by decide⟩ rfl rfl (Nat.le_of_ble_eq_true rfl) ?_
                exact gq_iret (pc := 105) rfl dX11_move_105 ⟨rfl, rfl⟩
          · exact absurd h3 h_68
        · exact absurd h_49 h2
    · exact absurd (show p_nt (p_in 2 0 3) = 0 by decide) h_11
set_option maxHeartbeats 400000 in
theorem c_move_ok_3_2 {i j n : Int32} (h1 : ¬ g 73 2 = 0) (h2 : ¬ g 71 2 = 0) (h3 : g 73 2 = g 71 2) (h4 : ¬ p_hold (g 73 1) i n = 0) (h5 : ¬ p_hold (g 71 1) j n = 0) {a b m : Nat} (ea : i = nI a) (eb : j = nI b) (em : n = nI m) (q1 : a + m ≤ 40) (q2 : b + m ≤ 40) : ge_N X ge_SH YX11_move 2 [.ref (ge_ad X.1 0), .int 3, .int i, .int 2, .int j, .int n] (ge_k g 25 r x hb) (some (.int n)) (ge_k (ge_row g 72 (va_cpy (g 74) (g 72) a b m)) 25 r x hb) := by
  refine gq_ofB (l := [(0, .ref (ge_ad X.1 0)), (1, .int 3), (2, .int i), (3, .int 2), (4, .int j), (5, .int n)]) (by decide) (Nat.le_of_ble_eq_true rfl) rfl ?_
  refine gq_iload_n (pc := 0) dX11_move_0 rfl ?_
  refine gq_rS1i (pc := 1) dX11_move_1 cs_X11_232 (c_noSheet _) ⟨by decide, by decide⟩ (Nat.le_of_ble_eq_true rfl) ?_
  refine gq_if_ne (pc := 4) 14 dX11_move_4 (by decide) (fun h_4 => ?_) (fun h_4 => ?_)
  · exact absurd h_4 (by decide)
  · refine gq_iload_n (pc := 7) dX11_move_7 rfl ?_
    refine gq_rS1i (pc := 8) dX11_move_8 cs_X11_232 (c_noSheet _) ⟨by decide, by decide⟩ (Nat.le_of_ble_eq_true rfl) ?_
    refine gq_if_eq (pc := 11) 20 dX11_move_11 (by decide) (fun h_11 => ?_) (fun h_11 => ?_)
    · refine gq_aload_n (pc := 20) dX11_move_20 rfl ?_
      refine gq_getr (pc := 21) dX11_move_21 fl_X11_89_11 sh_0 rfl ?_
      refine gq_iload_n (pc := 24) dX11_move_24 rfl ?_
      refine gq_aald (pc := 25) dX11_move_25 sh_66 rfl kl_3 rfl (by decide) ?_
      refine gq_astore (pc := 26) (l' := [(6, _), (0, _), (1, _), (2, _), (3, _), (4, _), (5, _)]) dX11_move_26 (by decide) rfl ?_
      refine gq_aload_n (pc := 28) dX11_move_28 rfl ?_
      refine gq_getr (pc := 29) dX11_move_29 fl_X11_89_11 sh_0 rfl ?_
      refine gq_iload_n (pc := 32) dX11_move_32 rfl ?_
      refine gq_aald (pc := 33) dX11_move_33 sh_66 rfl kl_2 rfl (by decide) ?_
      refine gq_astore (pc := 34) (l' := [(7, _), (6, _), (0, _), (1, _), (2, _), (3, _), (4, _), (5, _)]) dX11_move_34 (by decide) rfl ?_
      refine gq_aload (pc := 36) dX11_move_36 rfl ?_
      refine kq_geto (pw := 25) (pc := 38) (by decide) dX11_move_38 fl_X11_235_7 sh_73 rfl (by unfold ge_Z; omega) ?_
      refine gq_if_eq (pc := 41) 52 dX11_move_41 (by decide) (fun h_41 => ?_) (fun h_41 => ?_)
      · exact absurd h_41 h1
      · refine gq_aload (pc := 44) dX11_move_44 rfl ?_
        refine kq_geto (pw := 25) (pc := 46) (by decide) dX11_move_46 fl_X11_235_7 sh_71 rfl (by unfold ge_Z; omega) ?_
        refine gq_if_ne (pc := 49) 58 dX11_move_49 (by decide) (fun h_49 => ?_) (fun h_49 => ?_)
        · refine gq_aload (pc := 58) dX11_move_58 rfl ?_
          refine kq_geto (pw := 25) (pc := 60) (by decide) dX11_move_60 fl_X11_235_7 sh_73 rfl (by unfold ge_Z; omega) ?_
          refine gq_aload (pc := 63) dX11_move_63 rfl ?_
          refine kq_geto (pw := 25) (pc := 65) (by decide) dX11_move_65 fl_X11_235_7 sh_71 rfl (by unfold ge_Z; omega) ?_
          refine gq_ic_eq (pc := 68) 77 dX11_move_68 (by decide) (fun h_68 => ?_) (fun h_68 => ?_)
          · refine gq_aload (pc := 77) dX11_move_77 rfl ?_
            refine gq_iload_n (pc := 79) dX11_move_79 rfl ?_
            refine gq_iload (pc := 80) dX11_move_80 rfl ?_
            refine gq_rV2i (pc := 82) dX11_move_82 cv_X11_293 sh_73 (r_holds_73 _ _) ⟨by decide, by decide⟩ rfl rfl (Nat.le_of_ble_eq_true rfl) ?_
            refine gq_if_eq (pc := 85) 100 dX11_move_85 (by decide) (fun h_85 => ?_) (fun h_85 => ?_)
            · exact absurd h_85 h4
            · refine gq_aload (pc := 88) dX11_move_88 rfl ?_
              refine gq_iload (pc := 90) dX11_move_90 rfl ?_
              refine gq_iload (pc := 92) dX11_move_92 rfl ?_
              refine gq_rV2i (pc := 94) dX11_move_94 cv_X11_293 sh_71 (r_holds_71 _ _) ⟨by decide, by decide⟩ rfl rfl (Nat.le_of_ble_eq_true rfl) ?_
              refine gq_if_ne (pc := 97) 106 dX11_move_97 (by decide) (fun h_97 => ?_) (fun h_97 => ?_)
              · refine gq_aload (pc := 106) dX11_move_106 rfl ?_
                refine gq_getr (pc := 108) dX11_move_108 fl_X11_297_7 sh_73 rfl ?_
                refine gq_iload_n (pc := 111) dX11_move_111 rfl ?_
                refine gq_aload (pc := 112) dX11_move_112 rfl ?_
                refine gq_getr (pc := 114) dX11_move_114 fl_X11_297_7 sh_71 rfl ?_
                refine gq_iload (pc := 117) dX11_move_117 rfl ?_
                refine gq_iload (pc := 119) dX11_move_119 rfl ?_
                refine kq_copy (pw := 25) (pc := 121) (by decide) (by decide) dX11_move_121 cc_X11_306 sh_74 sh_72 ea eb em q1 q2 (by decide) (by decide) (by decide) (Nat.le_of_ble_eq_true rfl) ?_
                refine gq_iload (pc := 124) dX11_move_124 rfl ?_
                exact gq_iret (pc := 126) rfl dX11_move_126 ⟨rfl, rfl⟩
              · exact absurd h_97 h5
          · exact absurd h3 h_68
        · exact absurd h_49 h2
    · exact absurd (show p_nt (p_in 2 0 3) = 0 by decide) h_11
set_option maxHeartbeats 400000 in
theorem c_move_no_3_3 {i j n : Int32} (h : g 73 2 = 0 ∨ g 73 2 = 0) : ge_N X ge_SH YX11_move 2 [.ref (ge_ad X.1 0), .int 3, .int i, .int 3, .int j, .int n] (ge_k g 25 r x hb) (some (.int (-1000000000 - 2))) (ge_k (ge_up g 75 2 (g 75 2 + 1)) 25 r x hb) := by
  refine gq_ofB (l := [(0, .ref (ge_ad X.1 0)), (1, .int 3), (2, .int i), (3, .int 3), (4, .int j), (5, .int n)]) (by decide) (Nat.le_of_ble_eq_true rfl) rfl ?_
  refine gq_iload_n (pc := 0) dX11_move_0 rfl ?_
  refine gq_rS1i (pc := 1) dX11_move_1 cs_X11_232 (c_noSheet _) ⟨by decide, by decide⟩ (Nat.le_of_ble_eq_true rfl) ?_
  refine gq_if_ne (pc := 4) 14 dX11_move_4 (by decide) (fun h_4 => ?_) (fun h_4 => ?_)
  · exact absurd h_4 (by decide)
  · refine gq_iload_n (pc := 7) dX11_move_7 rfl ?_
    refine gq_rS1i (pc := 8) dX11_move_8 cs_X11_232 (c_noSheet _) ⟨by decide, by decide⟩ (Nat.le_of_ble_eq_true rfl) ?_
    refine gq_if_eq (pc := 11) 20 dX11_move_11 (by decide) (fun h_11 => ?_) (fun h_11 => ?_)
    · refine gq_aload_n (pc := 20) dX11_move_20 rfl ?_
      refine gq_getr (pc := 21) dX11_move_21 fl_X11_89_11 sh_0 rfl ?_
      refine gq_iload_n (pc := 24) dX11_move_24 rfl ?_
      refine gq_aald (pc := 25) dX11_move_25 sh_66 rfl kl_3 rfl (by decide) ?_
      refine gq_astore (pc := 26) (l' := [(6, _), (0, _), (1, _), (2, _), (3, _), (4, _), (5, _)]) dX11_move_26 (by decide) rfl ?_
      refine gq_aload_n (pc := 28) dX11_move_28 rfl ?_
      refine gq_getr (pc := 29) dX11_move_29 fl_X11_89_11 sh_0 rfl ?_
      refine gq_iload_n (pc := 32) dX11_move_32 rfl ?_
      refine gq_aald (pc := 33) dX11_move_33 sh_66 rfl kl_3 rfl (by decide) ?_
      refine gq_astore (pc := 34) (l' := [(7, _), (6, _), (0, _), (1, _), (2, _), (3, _), (4, _), (5, _)]) dX11_move_34 (by decide) rfl ?_
      refine gq_aload (pc := 36) dX11_move_36 rfl ?_
      refine kq_geto (pw := 25) (pc := 38) (by decide) dX11_move_38 fl_X11_235_7 sh_73 rfl (by unfold ge_Z; omega) ?_
      refine gq_if_eq (pc := 41) 52 dX11_move_41 (by decide) (fun h_41 => ?_) (fun h_41 => ?_)
      · refine gq_aload_n (pc := 52) dX11_move_52 rfl ?_
        refine gq_iconst (pc := 53) dX11_move_53 kc_2 ?_
        refine gq_rV1i (pc := 54) dX11_move_54 cv_X11_109 sh_0 (c_error kl_2 (by decide)) ⟨by decide, by decide⟩ rfl rfl (Nat.le_of_ble_eq_true rfl) ?_
        exact gq_iret (pc := 57) rfl dX11_move_57 ⟨rfl, rfl⟩
      · refine gq_aload (pc := 44) dX11_move_44 rfl ?_
        refine kq_geto (pw := 25) (pc := 46) (by decide) dX11_move_46 fl_X11_235_7 sh_73 rfl (by unfold ge_Z; omega) ?_
        refine gq_if_ne (pc := 49) 58 dX11_move_49 (by decide) (fun h_49 => ?_) (fun h_49 => ?_)
        · exact (h.elim h_41 h_49).elim
        · refine gq_aload_n (pc := 52) dX11_move_52 rfl ?_
          refine gq_iconst (pc := 53) dX11_move_53 kc_2 ?_
          refine gq_rV1i (pc := 54) dX11_move_54 cv_X11_109 sh_0 (c_error kl_2 (by decide)) ⟨by decide, by decide⟩ rfl rfl (Nat.le_of_ble_eq_true rfl) ?_
          exact gq_iret (pc := 57) rfl dX11_move_57 ⟨rfl, rfl⟩
    · exact absurd (show p_nt (p_in 3 0 3) = 0 by decide) h_11
set_option maxHeartbeats 400000 in
theorem c_move_ki_3_3 {i j n : Int32} (h1 : ¬ g 73 2 = 0) (h2 : ¬ g 73 2 = 0) (h3 : ¬ g 73 2 = g 73 2) : ge_N X ge_SH YX11_move 2 [.ref (ge_ad X.1 0), .int 3, .int i, .int 3, .int j, .int n] (ge_k g 25 r x hb) (some (.int (-1000000000 - 5))) (ge_k (ge_up g 75 5 (g 75 5 + 1)) 25 r x hb) := by
  refine gq_ofB (l := [(0, .ref (ge_ad X.1 0)), (1, .int 3), (2, .int i), (3, .int 3), (4, .int j), (5, .int n)]) (by decide) (Nat.le_of_ble_eq_true rfl) rfl ?_
  refine gq_iload_n (pc := 0) dX11_move_0 rfl ?_
  refine gq_rS1i (pc := 1) dX11_move_1 cs_X11_232 (c_noSheet _) ⟨by decide, by decide⟩ (Nat.le_of_ble_eq_true rfl) ?_
  refine gq_if_ne (pc := 4) 14 dX11_move_4 (by decide) (fun h_4 => ?_) (fun h_4 => ?_)
  · exact absurd h_4 (by decide)
  · refine gq_iload_n (pc := 7) dX11_move_7 rfl ?_
    refine gq_rS1i (pc := 8) dX11_move_8 cs_X11_232 (c_noSheet _) ⟨by decide, by decide⟩ (Nat.le_of_ble_eq_true rfl) ?_
    refine gq_if_eq (pc := 11) 20 dX11_move_11 (by decide) (fun h_11 => ?_) (fun h_11 => ?_)
    · refine gq_aload_n (pc := 20) dX11_move_20 rfl ?_
      refine gq_getr (pc := 21) dX11_move_21 fl_X11_89_11 sh_0 rfl ?_
      refine gq_iload_n (pc := 24) dX11_move_24 rfl ?_
      refine gq_aald (pc := 25) dX11_move_25 sh_66 rfl kl_3 rfl (by decide) ?_
      refine gq_astore (pc := 26) (l' := [(6, _), (0, _), (1, _), (2, _), (3, _), (4, _), (5, _)]) dX11_move_26 (by decide) rfl ?_
      refine gq_aload_n (pc := 28) dX11_move_28 rfl ?_
      refine gq_getr (pc := 29) dX11_move_29 fl_X11_89_11 sh_0 rfl ?_
      refine gq_iload_n (pc := 32) dX11_move_32 rfl ?_
      refine gq_aald (pc := 33) dX11_move_33 sh_66 rfl kl_3 rfl (by decide) ?_
      refine gq_astore (pc := 34) (l' := [(7, _), (6, _), (0, _), (1, _), (2, _), (3, _), (4, _), (5, _)]) dX11_move_34 (by decide) rfl ?_
      refine gq_aload (pc := 36) dX11_move_36 rfl ?_
      refine kq_geto (pw := 25) (pc := 38) (by decide) dX11_move_38 fl_X11_235_7 sh_73 rfl (by unfold ge_Z; omega) ?_
      refine gq_if_eq (pc := 41) 52 dX11_move_41 (by decide) (fun h_41 => ?_) (fun h_41 => ?_)
      · exact absurd h_41 h1
      · refine gq_aload (pc := 44) dX11_move_44 rfl ?_
        refine kq_geto (pw := 25) (pc := 46) (by decide) dX11_move_46 fl_X11_235_7 sh_73 rfl (by unfold ge_Z; omega) ?_
        refine gq_if_ne (pc := 49) 58 dX11_move_49 (by decide) (fun h_49 => ?_) (fun h_49 => ?_)
        · refine gq_aload (pc := 58) dX11_move_58 rfl ?_
          refine kq_geto (pw := 25) (pc := 60) (by decide) dX11_move_60 fl_X11_235_7 sh_73 rfl (by unfold ge_Z; omega) ?_
          refine gq_aload (pc := 63) dX11_move_63 rfl ?_
          refine kq_geto (pw := 25) (pc := 65) (by decide) dX11_move_65 fl_X11_235_7 sh_73 rfl (by unfold ge_Z; omega) ?_
          refine gq_ic_eq (pc := 68) 77 dX11_move_68 (by decide) (fun h_68 => ?_) (fun h_68 => ?_)
          · exact absurd h_68 h3
          · refine gq_aload_n (pc := 71) dX11_move_71 rfl ?_
            refine gq_iconst (pc := 72) dX11_move_72 kc_5 ?_
            refine gq_rV1i (pc := 73) dX11_move_73 cv_X11_109 sh_0 (c_error kl_5 (by decide)) ⟨by decide, by decide⟩ rfl rfl (Nat.le_of_ble_eq_true rfl) ?_
            exact gq_iret (pc := 76) rfl dX11_move_76 ⟨rfl, rfl⟩
        · exact absurd h_49 h2
    · exact absurd (show p_nt (p_in 3 0 3) = 0 by decide) h_11
set_option maxHeartbeats 400000 in
theorem c_move_er2_3_3 {i j n : Int32} (h1 : ¬ g 73 2 = 0) (h2 : ¬ g 73 2 = 0) (h3 : g 73 2 = g 73 2) (h4 : p_hold (g 73 1) i n = 0 ∨ p_hold (g 73 1) j n = 0) : ge_N X ge_SH YX11_move 2 [.ref (ge_ad X.1 0), .int 3, .int i, .int 3, .int j, .int n] (ge_k g 25 r x hb) (some (.int (-1000000000 - 1))) (ge_k (ge_up g 75 1 (g 75 1 + 1)) 25 r x hb) := by
  refine gq_ofB (l := [(0, .ref (ge_ad X.1 0)), (1, .int 3), (2, .int i), (3, .int 3), (4, .int j), (5, .int n)]) (by decide) (Nat.le_of_ble_eq_true rfl) rfl ?_
  refine gq_iload_n (pc := 0) dX11_move_0 rfl ?_
  refine gq_rS1i (pc := 1) dX11_move_1 cs_X11_232 (c_noSheet _) ⟨by decide, by decide⟩ (Nat.le_of_ble_eq_true rfl) ?_
  refine gq_if_ne (pc := 4) 14 dX11_move_4 (by decide) (fun h_4 => ?_) (fun h_4 => ?_)
  · exact absurd h_4 (by decide)
  · refine gq_iload_n (pc := 7) dX11_move_7 rfl ?_
    refine gq_rS1i (pc := 8) dX11_move_8 cs_X11_232 (c_noSheet _) ⟨by decide, by decide⟩ (Nat.le_of_ble_eq_true rfl) ?_
    refine gq_if_eq (pc := 11) 20 dX11_move_11 (by decide) (fun h_11 => ?_) (fun h_11 => ?_)
    · refine gq_aload_n (pc := 20) dX11_move_20 rfl ?_
      refine gq_getr (pc := 21) dX11_move_21 fl_X11_89_11 sh_0 rfl ?_
      refine gq_iload_n (pc := 24) dX11_move_24 rfl ?_
      refine gq_aald (pc := 25) dX11_move_25 sh_66 rfl kl_3 rfl (by decide) ?_
      refine gq_astore (pc := 26) (l' := [(6, _), (0, _), (1, _), (2, _), (3, _), (4, _), (5, _)]) dX11_move_26 (by decide) rfl ?_
      refine gq_aload_n (pc := 28) dX11_move_28 rfl ?_
      refine gq_getr (pc := 29) dX11_move_29 fl_X11_89_11 sh_0 rfl ?_
      refine gq_iload_n (pc := 32) dX11_move_32 rfl ?_
      refine gq_aald (pc := 33) dX11_move_33 sh_66 rfl kl_3 rfl (by decide) ?_
      refine gq_astore (pc := 34) (l' := [(7, _), (6, _), (0, _), (1, _), (2, _), (3, _), (4, _), (5, _)]) dX11_move_34 (by decide) rfl ?_
      refine gq_aload (pc := 36) dX11_move_36 rfl ?_
      refine kq_geto (pw := 25) (pc := 38) (by decide) dX11_move_38 fl_X11_235_7 sh_73 rfl (by unfold ge_Z; omega) ?_
      refine gq_if_eq (pc := 41) 52 dX11_move_41 (by decide) (fun h_41 => ?_) (fun h_41 => ?_)
      · exact absurd h_41 h1
      · refine gq_aload (pc := 44) dX11_move_44 rfl ?_
        refine kq_geto (pw := 25) (pc := 46) (by decide) dX11_move_46 fl_X11_235_7 sh_73 rfl (by unfold ge_Z; omega) ?_
        refine gq_if_ne (pc := 49) 58 dX11_move_49 (by decide) (fun h_49 => ?_) (fun h_49 => ?_)
        · refine gq_aload (pc := 58) dX11_move_58 rfl ?_
          refine kq_geto (pw := 25) (pc := 60) (by decide) dX11_move_60 fl_X11_235_7 sh_73 rfl (by unfold ge_Z; omega) ?_
          refine gq_aload (pc := 63) dX11_move_63 rfl ?_
          refine kq_geto (pw := 25) (pc := 65) (by decide) dX11_move_65 fl_X11_235_7 sh_73 rfl (by unfold ge_Z; omega) ?_
          refine gq_ic_eq (pc := 68) 77 dX11_move_68 (by decide) (fun h_68 => ?_) (fun h_68 => ?_)
          · refine gq_aload (pc := 77) dX11_move_77 rfl ?_
            refine gq_iload_n (pc := 79) dX11_move_79 rfl ?_
            refine gq_iload (pc := 80) dX11_move_80 rfl ?_
            refine gq_rV2i (pc := 82) dX11_move_82 cv_X11_293 sh_73 (r_holds_73 _ _) ⟨by decide, by decide⟩ rfl rfl (Nat.le_of_ble_eq_true rfl) ?_
            refine gq_if_eq (pc := 85) 100 dX11_move_85 (by decide) (fun h_85 => ?_) (fun h_85 => ?_)
            · refine gq_aload_n (pc := 100) dX11_move_100 rfl ?_
              refine gq_iconst (pc := 101) dX11_move_101 kc_1 ?_
              refine gq_rV1i (pc := 102) dX11_move_102 cv_X11_109 sh_0 (c_error kl_1 (by decide)) ⟨by decide, by decide⟩ rfl rfl (Nat.le_of_ble_eq_true rfl) ?_
              exact gq_iret (pc := 105) rfl dX11_move_105 ⟨rfl, rfl⟩
            · refine gq_aload (pc := 88) dX11_move_88 rfl ?_
              refine gq_iload (pc := 90) dX11_move_90 rfl ?_
              refine gq_iload (pc := 92) dX11_move_92 rfl ?_
              refine gq_rV2i (pc := 94) dX11_move_94 cv_X11_293 sh_73 (r_holds_73 _ _) ⟨by decide, by decide⟩ rfl rfl (Nat.le_of_ble_eq_true rfl) ?_
              refine gq_if_ne (pc := 97) 106 dX11_move_97 (by decide) (fun h_97 => ?_) (fun h_97 => ?_)
              · exact (h4.elim h_85 h_97).elim
              · refine gq_aload_n (pc := 100) dX11_move_100 rfl ?_
                refine gq_iconst (pc := 101) dX11_move_101 kc_1 ?_
                refine gq_rV1i (pc := 102) dX11_move_102 cv_X11_109 sh_0 (c_error kl_1 (by decide)) ⟨by decide, by decide⟩ rfl rfl (Nat.le_of_ble_eq_true rfl) ?_
                exact gq_iret (pc := 105) rfl dX11_move_105 ⟨rfl, rfl⟩
          · exact absurd h3 h_68
        · exact absurd h_49 h2
    · exact absurd (show p_nt (p_in 3 0 3) = 0 by decide) h_11
set_option maxHeartbeats 400000 in
theorem c_move_ok_3_3 {i j n : Int32} (h1 : ¬ g 73 2 = 0) (h2 : ¬ g 73 2 = 0) (h3 : g 73 2 = g 73 2) (h4 : ¬ p_hold (g 73 1) i n = 0) (h5 : ¬ p_hold (g 73 1) j n = 0) {a b m : Nat} (ea : i = nI a) (eb : j = nI b) (em : n = nI m) (q1 : a + m ≤ 40) (q2 : b + m ≤ 40) : ge_N X ge_SH YX11_move 2 [.ref (ge_ad X.1 0), .int 3, .int i, .int 3, .int j, .int n] (ge_k g 25 r x hb) (some (.int n)) (ge_k (ge_row g 74 (va_cpy (g 74) (g 74) a b m)) 25 r x hb) := by
  refine gq_ofB (l := [(0, .ref (ge_ad X.1 0)), (1, .int 3), (2, .int i), (3, .int 3), (4, .int j), (5, .int n)]) (by decide) (Nat.le_of_ble_eq_true rfl) rfl ?_
  refine gq_iload_n (pc := 0) dX11_move_0 rfl ?_
  refine gq_rS1i (pc := 1) dX11_move_1 cs_X11_232 (c_noSheet _) ⟨by decide, by decide⟩ (Nat.le_of_ble_eq_true rfl) ?_
  refine gq_if_ne (pc := 4) 14 dX11_move_4 (by decide) (fun h_4 => ?_) (fun h_4 => ?_)
  · exact absurd h_4 (by decide)
  · refine gq_iload_n (pc := 7) dX11_move_7 rfl ?_
    refine gq_rS1i (pc := 8) dX11_move_8 cs_X11_232 (c_noSheet _) ⟨by decide, by decide⟩ (Nat.le_of_ble_eq_true rfl) ?_
    refine gq_if_eq (pc := 11) 20 dX11_move_11 (by decide) (fun h_11 => ?_) (fun h_11 => ?_)
    · refine gq_aload_n (pc := 20) dX11_move_20 rfl ?_
      refine gq_getr (pc := 21) dX11_move_21 fl_X11_89_11 sh_0 rfl ?_
      refine gq_iload_n (pc := 24) dX11_move_24 rfl ?_
      refine gq_aald (pc := 25) dX11_move_25 sh_66 rfl kl_3 rfl (by decide) ?_
      refine gq_astore (pc := 26) (l' := [(6, _), (0, _), (1, _), (2, _), (3, _), (4, _), (5, _)]) dX11_move_26 (by decide) rfl ?_
      refine gq_aload_n (pc := 28) dX11_move_28 rfl ?_
      refine gq_getr (pc := 29) dX11_move_29 fl_X11_89_11 sh_0 rfl ?_
      refine gq_iload_n (pc := 32) dX11_move_32 rfl ?_
      refine gq_aald (pc := 33) dX11_move_33 sh_66 rfl kl_3 rfl (by decide) ?_
      refine gq_astore (pc := 34) (l' := [(7, _), (6, _), (0, _), (1, _), (2, _), (3, _), (4, _), (5, _)]) dX11_move_34 (by decide) rfl ?_
      refine gq_aload (pc := 36) dX11_move_36 rfl ?_
      refine kq_geto (pw := 25) (pc := 38) (by decide) dX11_move_38 fl_X11_235_7 sh_73 rfl (by unfold ge_Z; omega) ?_
      refine gq_if_eq (pc := 41) 52 dX11_move_41 (by decide) (fun h_41 => ?_) (fun h_41 => ?_)
      · exact absurd h_41 h1
      · refine gq_aload (pc := 44) dX11_move_44 rfl ?_
        refine kq_geto (pw := 25) (pc := 46) (by decide) dX11_move_46 fl_X11_235_7 sh_73 rfl (by unfold ge_Z; omega) ?_
        refine gq_if_ne (pc := 49) 58 dX11_move_49 (by decide) (fun h_49 => ?_) (fun h_49 => ?_)
        · refine gq_aload (pc := 58) dX11_move_58 rfl ?_
          refine kq_geto (pw := 25) (pc := 60) (by decide) dX11_move_60 fl_X11_235_7 sh_73 rfl (by unfold ge_Z; omega) ?_
          refine gq_aload (pc := 63) dX11_move_63 rfl ?_
          refine kq_geto (pw := 25) (pc := 65) (by decide) dX11_move_65 fl_X11_235_7 sh_73 rfl (by unfold ge_Z; omega) ?_
          refine gq_ic_eq (pc := 68) 77 dX11_move_68 (by decide) (fun h_68 => ?_) (fun h_68 => ?_)
          · refine gq_aload (pc := 77) dX11_move_77 rfl ?_
            refine gq_iload_n (pc := 79) dX11_move_79 rfl ?_
            refine gq_iload (pc := 80) dX11_move_80 rfl ?_
            refine gq_rV2i (pc := 82) dX11_move_82 cv_X11_293 sh_73 (r_holds_73 _ _) ⟨by decide, by decide⟩ rfl rfl (Nat.le_of_ble_eq_true rfl) ?_
            refine gq_if_eq (pc := 85) 100 dX11_move_85 (by decide) (fun h_85 => ?_) (fun h_85 => ?_)
            · exact absurd h_85 h4
            · refine gq_aload (pc := 88) dX11_move_88 rfl ?_
              refine gq_iload (pc := 90) dX11_move_90 rfl ?_
              refine gq_iload (pc := 92) dX11_move_92 rfl ?_
              refine gq_rV2i (pc := 94) dX11_move_94 cv_X11_293 sh_73 (r_holds_73 _ _) ⟨by decide, by decide⟩ rfl rfl (Nat.le_of_ble_eq_true rfl) ?_
              refine gq_if_ne (pc := 97) 106 dX11_move_97 (by decide) (fun h_97 => ?_) (fun h_97 => ?_)
              · refine gq_aload (pc := 106) dX11_move_106 rfl ?_
                refine gq_getr (pc := 108) dX11_move_108 fl_X11_297_7 sh_73 rfl ?_
                refine gq_iload_n (pc := 111) dX11_move_111 rfl ?_
                refine gq_aload (pc := 112) dX11_move_112 rfl ?_
                refine gq_getr (pc := 114) dX11_move_114 fl_X11_297_7 sh_73 rfl ?_
                refine gq_iload (pc := 117) dX11_move_117 rfl ?_
                refine gq_iload (pc := 119) dX11_move_119 rfl ?_
                refine kq_copy (pw := 25) (pc := 121) (by decide) (by decide) dX11_move_121 cc_X11_306 sh_74 sh_74 ea eb em q1 q2 (by decide) (by decide) (by decide) (Nat.le_of_ble_eq_true rfl) ?_
                refine gq_iload (pc := 124) dX11_move_124 rfl ?_
                exact gq_iret (pc := 126) rfl dX11_move_126 ⟨rfl, rfl⟩
              · exact absurd h_97 h5
          · exact absurd h3 h_68
        · exact absurd h_49 h2
    · exact absurd (show p_nt (p_in 3 0 3) = 0 by decide) h_11
end P8
