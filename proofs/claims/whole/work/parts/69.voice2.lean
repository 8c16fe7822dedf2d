section V2
variable {X : ge_X} {g : ge_G} {r x hb f : Nat → Int32} {c V E : Nat}
theorem p_u2 {f : Nat → Int32} {i : Nat} {a b : Int32} : upd (upd f i a) i b = upd f i b := by
  funext k
  by_cases h : k = i
  · subst h; rw [pk_us, pk_us]
  · rw [pk_un h, pk_un h, pk_un h]
theorem p_uc {f : Nat → Int32} {i j : Nat} {a b : Int32} (h : i ≠ j) : upd (upd f i a) j b = upd (upd f j b) i a := by
  funext k
  by_cases h1 : k = i
  · subst h1; rw [pk_un h, pk_us, pk_us]
  · by_cases h2 : k = j
    · subst h2; rw [pk_us, pk_un h1, pk_us]
    · rw [pk_un h2, pk_un h1, pk_un h1, pk_un h2]
set_option maxHeartbeats 400000 in
theorem m_ran {v : Int32} {k : Nat} (h : k < 40) : ge_N X ge_SH YX12_ran 0 [.ref (ge_ad X.1 76), .int v] (ge_m g r (upd f 22 (nI k))) none (ge_m (p_addm g k [v]) r (upd f 22 (nI (k + 1)))) := by
  refine gq_ofB (l := [(0, .ref (ge_ad X.1 76)), (1, .int v)]) (by decide) (Nat.le_of_ble_eq_true rfl) rfl ?_
  refine gq_aload_n (pc := 0) dX12_ran_0 rfl ?_
  refine qw_get (v := nI k) (pc := 1) dX12_ran_1 fl_X12_225_12 sh_76 rfl rfl (by decide) ?_
  refine gq_bipush (pc := 4) dX12_ran_4 kb_40 ?_
  refine gq_ic_ge (pc := 6) 29 dX12_ran_6 (by decide) (fun h_6 => ?_) (fun h_6 => ?_)
  · exact absurd ((nI_leI (a := 40) (by omega) (by omega)).mp h_6) (by omega)
  · refine gq_aload_n (pc := 9) dX12_ran_9 rfl ?_
    refine gq_getr (pc := 10) dX12_ran_10 fl_X12_37_12 sh_76 rfl ?_
    refine gq_aload_n (pc := 13) dX12_ran_13 rfl ?_
    refine qw_get (v := nI k) (pc := 14) dX12_ran_14 fl_X12_225_12 sh_76 rfl rfl (by decide) ?_
    refine gq_iload_n (pc := 17) dX12_ran_17 rfl ?_
    refine qm_asto (pc := 18) dX12_ran_18 sh_86 (by decide) rfl (by first | decide | omega) (by decide) ?_
    refine gq_aload_n (pc := 19) dX12_ran_19 rfl ?_
    refine gq_dup (pc := 20) dX12_ran_20 rfl ?_
    refine qw_get (v := nI k) (pc := 21) dX12_ran_21 fl_X12_225_12 sh_76 rfl rfl (by decide) ?_
    refine gq_iconst (pc := 24) dX12_ran_24 kc_1 ?_
    refine gq_iadd (pc := 25) dX12_ran_25 ?_
    rw [nI_1]
    refine qm_puti (pc := 26) dX12_ran_26 fp_X12_225_12 sh_76 rfl ?_
    exact gq_vret (pc := 29) rfl dX12_ran_29 ⟨rfl, by rw [p_u2]; rfl⟩
set_option maxHeartbeats 400000 in
theorem m_sees_0 {n m a : Int32} {k : Nat} (hk2 : k + 1 ≤ 40) (hN : f 24 = n) (hM : f 25 = m) : ge_N X ge_SH YX12_seesIn 2 [.ref (ge_ad X.1 76), .int 0, .int a] (ge_m g r (upd f 22 (nI k))) (some (.int (a + n))) (ge_m (p_addm g k [10]) r (upd f 22 (nI (k + 1)))) := by
  refine gq_ofB (l := [(0, .ref (ge_ad X.1 76)), (1, .int 0), (2, .int a)]) (by decide) (Nat.le_of_ble_eq_true rfl) rfl ?_
  refine gq_iload_n (pc := 0) dX12_seesIn_0 rfl ?_
  refine gq_if_ne (pc := 1) 17 dX12_seesIn_1 (by decide) (fun h_1 => ?_) (fun h_1 => ?_)
  · exact absurd h_1 (by decide)
  · refine gq_aload_n (pc := 4) dX12_seesIn_4 rfl ?_
    refine gq_bipush (pc := 5) dX12_seesIn_5 kb_10 ?_
    refine gq_rV1v (pc := 7) dX12_seesIn_7 cv_X12_228 sh_76 (m_ran (by omega)) ⟨by decide, by decide⟩ rfl rfl (Nat.le_of_ble_eq_true rfl) ?_
    refine gq_iload_n (pc := 10) dX12_seesIn_10 rfl ?_
    refine gq_aload_n (pc := 11) dX12_seesIn_11 rfl ?_
    refine qw_get (v := n) (pc := 12) dX12_seesIn_12 fl_X12_231_12 sh_76 rfl hN (by decide) ?_
    refine gq_iadd (pc := 15) dX12_seesIn_15 ?_
    exact gq_iret (pc := 16) rfl dX12_seesIn_16 ⟨rfl, rfl⟩
set_option maxHeartbeats 400000 in
theorem m_blinks_0 {n m a : Int32} {k : Nat} (hk2 : k + 1 ≤ 40) (hN : f 24 = n) (hM : f 25 = m) : ge_N X ge_SH YX12_blinksIn 2 [.ref (ge_ad X.1 76), .int 0, .int a] (ge_m g r (upd f 22 (nI k))) (some (.int (a - m))) (ge_m (p_addm g k [12]) r (upd f 22 (nI (k + 1)))) := by
  refine gq_ofB (l := [(0, .ref (ge_ad X.1 76)), (1, .int 0), (2, .int a)]) (by decide) (Nat.le_of_ble_eq_true rfl) rfl ?_
  refine gq_iload_n (pc := 0) dX12_blinksIn_0 rfl ?_
  refine gq_if_ne (pc := 1) 17 dX12_blinksIn_1 (by decide) (fun h_1 => ?_) (fun h_1 => ?_)
  · exact absurd h_1 (by decide)
  · refine gq_aload_n (pc := 4) dX12_blinksIn_4 rfl ?_
    refine gq_bipush (pc := 5) dX12_blinksIn_5 kb_12 ?_
    refine gq_rV1v (pc := 7) dX12_blinksIn_7 cv_X12_228 sh_76 (m_ran (by omega)) ⟨by decide, by decide⟩ rfl rfl (Nat.le_of_ble_eq_true rfl) ?_
    refine gq_iload_n (pc := 10) dX12_blinksIn_10 rfl ?_
    refine gq_aload_n (pc := 11) dX12_blinksIn_11 rfl ?_
    refine qw_get (v := m) (pc := 12) dX12_blinksIn_12 fl_X12_237_12 sh_76 rfl hM (by decide) ?_
    refine gq_isub (pc := 15) dX12_blinksIn_15 ?_
    exact gq_iret (pc := 16) rfl dX12_blinksIn_16 ⟨rfl, rfl⟩
set_option maxHeartbeats 400000 in
theorem m_looks_0_0 {n m a : Int32} {k : Nat} (hk2 : k + 2 ≤ 40) (hN : f 24 = n) (hM : f 25 = m) (hV : f 23 = 0) : ge_N X ge_SH YX12_looksIn 3 [.ref (ge_ad X.1 76), .int 0, .int a] (ge_m g r (upd f 22 (nI k))) (some (.int ((a + n) * 2))) (ge_m (p_addm g k [11, 10]) r (upd f 22 (nI (k + 2)))) := by
  refine gq_ofB (l := [(0, .ref (ge_ad X.1 76)), (1, .int 0), (2, .int a)]) (by decide) (Nat.le_of_ble_eq_true rfl) rfl ?_
  refine gq_iload_n (pc := 0) dX12_looksIn_0 rfl ?_
  refine gq_if_ne (pc := 1) 22 dX12_looksIn_1 (by decide) (fun h_1 => ?_) (fun h_1 => ?_)
  · exact absurd h_1 (by decide)
  · refine gq_aload_n (pc := 4) dX12_looksIn_4 rfl ?_
    refine gq_bipush (pc := 5) dX12_looksIn_5 kb_11 ?_
    refine gq_rV1v (pc := 7) dX12_looksIn_7 cv_X12_228 sh_76 (m_ran (by omega)) ⟨by decide, by decide⟩ rfl rfl (Nat.le_of_ble_eq_true rfl) ?_
    refine gq_aload_n (pc := 10) dX12_looksIn_10 rfl ?_
    refine gq_aload_n (pc := 11) dX12_looksIn_11 rfl ?_
    refine qw_get (v := 0) (pc := 12) dX12_looksIn_12 fl_X12_243_12 sh_76 rfl hV (by decide) ?_
    refine gq_iload_n (pc := 15) dX12_looksIn_15 rfl ?_
    refine gq_rV2i (pc := 16) dX12_looksIn_16 cv_X12_234 sh_76 (m_sees_0 (g := p_addm g k [11]) (k := k + 1) (by omega) hN hM) ⟨by decide, by decide⟩ rfl rfl (Nat.le_of_ble_eq_true rfl) ?_
    refine gq_tog (g := ge_m (p_addm g k [11, 10]) r (upd f 22 (nI (k + 2)))) (congrArg (fun q => ge_m q r (upd f 22 (nI (k + 2)))) (p_addm_app g k [11] [10]).symm) ?_
    refine gq_iconst (pc := 19) dX12_looksIn_19 kc_2 ?_
    refine gq_imul (pc := 20) dX12_looksIn_20 ?_
    exact gq_iret (pc := 21) rfl dX12_looksIn_21 ⟨rfl, rfl⟩
set_option maxHeartbeats 400000 in
theorem m_tells_0_0 {n m a : Int32} {k : Nat} (hk2 : k + 4 ≤ 40) (hN : f 24 = n) (hM : f 25 = m) (hV : f 23 = 0) : ge_N X ge_SH YX12_tellsIn 4 [.ref (ge_ad X.1 76), .int 0, .int a] (ge_m g r (upd f 22 (nI k))) (some (.int (((a + n) * 2) ^^^ (a - m)))) (ge_m (p_addm g k [13, 11, 10, 12]) r (upd f 22 (nI (k + 4)))) := by
  refine gq_ofB (l := [(0, .ref (ge_ad X.1 76)), (1, .int 0), (2, .int a)]) (by decide) (Nat.le_of_ble_eq_true rfl) rfl ?_
  refine gq_iload_n (pc := 0) dX12_tellsIn_0 rfl ?_
  refine gq_if_ne (pc := 1) 32 dX12_tellsIn_1 (by decide) (fun h_1 => ?_) (fun h_1 => ?_)
  · exact absurd h_1 (by decide)
  · refine gq_aload_n (pc := 4) dX12_tellsIn_4 rfl ?_
    refine gq_bipush (pc := 5) dX12_tellsIn_5 kb_13 ?_
    refine gq_rV1v (pc := 7) dX12_tellsIn_7 cv_X12_228 sh_76 (m_ran (by omega)) ⟨by decide, by decide⟩ rfl rfl (Nat.le_of_ble_eq_true rfl) ?_
    refine gq_aload_n (pc := 10) dX12_tellsIn_10 rfl ?_
    refine gq_aload_n (pc := 11) dX12_tellsIn_11 rfl ?_
    refine qw_get (v := 0) (pc := 12) dX12_tellsIn_12 fl_X12_243_12 sh_76 rfl hV (by decide) ?_
    refine gq_iload_n (pc := 15) dX12_tellsIn_15 rfl ?_
    refine gq_rV2i (pc := 16) dX12_tellsIn_16 cv_X12_246 sh_76 (m_looks_0_0 (g := p_addm g k [13]) (k := k + 1) (by omega) hN hM hV) ⟨by decide, by decide⟩ rfl rfl (Nat.le_of_ble_eq_true rfl) ?_
    refine gq_tog (g := ge_m (p_addm g k [13, 11, 10]) r (upd f 22 (nI (k + 3)))) (congrArg (fun q => ge_m q r (upd f 22 (nI (k + 3)))) (p_addm_app g k [13] [11, 10]).symm) ?_
    refine gq_istore_n (pc := 19) (l' := [(3, _), (0, _), (1, _), (2, _)]) dX12_tellsIn_19 (by decide) rfl ?_
    refine gq_iload_n (pc := 20) dX12_tellsIn_20 rfl ?_
    refine gq_aload_n (pc := 21) dX12_tellsIn_21 rfl ?_
    refine gq_aload_n (pc := 22) dX12_tellsIn_22 rfl ?_
    refine qw_get (v := 0) (pc := 23) dX12_tellsIn_23 fl_X12_243_12 sh_76 rfl hV (by decide) ?_
    refine gq_iload_n (pc := 26) dX12_tellsIn_26 rfl ?_
    refine gq_rV2i (pc := 27) dX12_tellsIn_27 cv_X12_240 sh_76 (m_blinks_0 (g := p_addm g k [13, 11, 10]) (k := k + 3) (by omega) hN hM) ⟨by decide, by decide⟩ rfl rfl (Nat.le_of_ble_eq_true rfl) ?_
    refine gq_tog (g := ge_m (p_addm g k [13, 11, 10, 12]) r (upd f 22 (nI (k + 4)))) (congrArg (fun q => ge_m q r (upd f 22 (nI (k + 4)))) (p_addm_app g k [13, 11, 10] [12]).symm) ?_
    refine gq_ixor (pc := 30) dX12_tellsIn_30 ?_
    exact gq_iret (pc := 31) rfl dX12_tellsIn_31 ⟨rfl, rfl⟩
set_option maxHeartbeats 400000 in
theorem m_sees_1 {n m a : Int32} {k : Nat} (hk2 : k + 2 ≤ 40) (hN : f 24 = n) (hM : f 25 = m) : ge_N X ge_SH YX12_seesIn 3 [.ref (ge_ad X.1 76), .int 1, .int a] (ge_m g r (upd f 22 (nI k))) (some (.int ((a + n) * 3))) (ge_m (p_addm g k [20, 10]) r (upd f 22 (nI (k + 2)))) := by
  refine gq_ofB (l := [(0, .ref (ge_ad X.1 76)), (1, .int 1), (2, .int a)]) (by decide) (Nat.le_of_ble_eq_true rfl) rfl ?_
  refine gq_iload_n (pc := 0) dX12_seesIn_0 rfl ?_
  refine gq_if_ne (pc := 1) 17 dX12_seesIn_1 (by decide) (fun h_1 => ?_) (fun h_1 => ?_)
  · refine gq_iload_n (pc := 17) dX12_seesIn_17 rfl ?_
    refine gq_iconst (pc := 18) dX12_seesIn_18 kc_1 ?_
    refine gq_ic_ne (pc := 19) 37 dX12_seesIn_19 (by decide) (fun h_19 => ?_) (fun h_19 => ?_)
    · exact absurd h_19 (by decide)
    · refine gq_aload_n (pc := 22) dX12_seesIn_22 rfl ?_
      refine gq_bipush (pc := 23) dX12_seesIn_23 kb_20 ?_
      refine gq_rV1v (pc := 25) dX12_seesIn_25 cv_X12_228 sh_76 (m_ran (by omega)) ⟨by decide, by decide⟩ rfl rfl (Nat.le_of_ble_eq_true rfl) ?_
      refine gq_aload_n (pc := 28) dX12_seesIn_28 rfl ?_
      refine gq_iconst (pc := 29) dX12_seesIn_29 kc_0 ?_
      refine gq_iload_n (pc := 30) dX12_seesIn_30 rfl ?_
      refine gq_rV2i (pc := 31) dX12_seesIn_31 cv_X12_234 sh_76 (m_sees_0 (g := p_addm g k [20]) (k := k + 1) (by omega) hN hM) ⟨by decide, by decide⟩ rfl rfl (Nat.le_of_ble_eq_true rfl) ?_
      refine gq_tog (g := ge_m (p_addm g k [20, 10]) r (upd f 22 (nI (k + 2)))) (congrArg (fun q => ge_m q r (upd f 22 (nI (k + 2)))) (p_addm_app g k [20] [10]).symm) ?_
      refine gq_iconst (pc := 34) dX12_seesIn_34 kc_3 ?_
      refine gq_imul (pc := 35) dX12_seesIn_35 ?_
      exact gq_iret (pc := 36) rfl dX12_seesIn_36 ⟨rfl, rfl⟩
  · exact absurd h_1 (by decide)
set_option maxHeartbeats 400000 in
theorem m_blinks_1 {n m a : Int32} {k : Nat} (hk2 : k + 1 ≤ 40) (hN : f 24 = n) (hM : f 25 = m) : ge_N X ge_SH YX12_blinksIn 3 [.ref (ge_ad X.1 76), .int 1, .int a] (ge_m g r (upd f 22 (nI k))) (some (.int (a - m))) (ge_m (p_addm g k [12]) r (upd f 22 (nI (k + 1)))) := by
  refine gq_ofB (l := [(0, .ref (ge_ad X.1 76)), (1, .int 1), (2, .int a)]) (by decide) (Nat.le_of_ble_eq_true rfl) rfl ?_
  refine gq_iload_n (pc := 0) dX12_blinksIn_0 rfl ?_
  refine gq_if_ne (pc := 1) 17 dX12_blinksIn_1 (by decide) (fun h_1 => ?_) (fun h_1 => ?_)
  · refine gq_iload_n (pc := 17) dX12_blinksIn_17 rfl ?_
    refine gq_iconst (pc := 18) dX12_blinksIn_18 kc_3 ?_
    refine gq_ic_ne (pc := 19) 36 dX12_blinksIn_19 (by decide) (fun h_19 => ?_) (fun h_19 => ?_)
    · refine gq_iload_n (pc := 36) dX12_blinksIn_36 rfl ?_
      refine gq_bipush (pc := 37) dX12_blinksIn_37 kb_6 ?_
      refine gq_ic_ne (pc := 39) 60 dX12_blinksIn_39 (by decide) (fun h_39 => ?_) (fun h_39 => ?_)
      · refine gq_aload_n (pc := 60) dX12_blinksIn_60 rfl ?_
        refine gq_iload_n (pc := 61) dX12_blinksIn_61 rfl ?_
        refine gq_rS1i (pc := 62) dX12_blinksIn_62 cs_X12_93 (k_above _) ⟨by decide, by decide⟩ (Nat.le_of_ble_eq_true rfl) ?_
        refine gq_tov (v := 0) (by decide) ?_
        refine gq_iload_n (pc := 65) dX12_blinksIn_65 rfl ?_
        refine gq_rV2i (pc := 66) dX12_blinksIn_66 cv_X12_240 sh_76 (m_blinks_0 (k := k) (by omega) hN hM) ⟨by decide, by decide⟩ rfl rfl (Nat.le_of_ble_eq_true rfl) ?_
        exact gq_iret (pc := 69) rfl dX12_blinksIn_69 ⟨rfl, rfl⟩
      · exact absurd h_39 (by decide)
    · exact absurd h_19 (by decide)
  · exact absurd h_1 (by decide)
set_option maxHeartbeats 400000 in
theorem m_looks_0_1 {n m a : Int32} {k : Nat} (hk2 : k + 3 ≤ 40) (hN : f 24 = n) (hM : f 25 = m) (hV : f 23 = 1) : ge_N X ge_SH YX12_looksIn 4 [.ref (ge_ad X.1 76), .int 0, .int a] (ge_m g r (upd f 22 (nI k))) (some (.int (((a + n) * 3) * 2))) (ge_m (p_addm g k [11, 20, 10]) r (upd f 22 (nI (k + 3)))) := by
  refine gq_ofB (l := [(0, .ref (ge_ad X.1 76)), (1, .int 0), (2, .int a)]) (by decide) (Nat.le_of_ble_eq_true rfl) rfl ?_
  refine gq_iload_n (pc := 0) dX12_looksIn_0 rfl ?_
  refine gq_if_ne (pc := 1) 22 dX12_looksIn_1 (by decide) (fun h_1 => ?_) (fun h_1 => ?_)
  · exact absurd h_1 (by decide)
  · refine gq_aload_n (pc := 4) dX12_looksIn_4 rfl ?_
    refine gq_bipush (pc := 5) dX12_looksIn_5 kb_11 ?_
    refine gq_rV1v (pc := 7) dX12_looksIn_7 cv_X12_228 sh_76 (m_ran (by omega)) ⟨by decide, by decide⟩ rfl rfl (Nat.le_of_ble_eq_true rfl) ?_
    refine gq_aload_n (pc := 10) dX12_looksIn_10 rfl ?_
    refine gq_aload_n (pc := 11) dX12_looksIn_11 rfl ?_
    refine qw_get (v := 1) (pc := 12) dX12_looksIn_12 fl_X12_243_12 sh_76 rfl hV (by decide) ?_
    refine gq_iload_n (pc := 15) dX12_looksIn_15 rfl ?_
    refine gq_rV2i (pc := 16) dX12_looksIn_16 cv_X12_234 sh_76 (m_sees_1 (g := p_addm g k [11]) (k := k + 1) (by omega) hN hM) ⟨by decide, by decide⟩ rfl rfl (Nat.le_of_ble_eq_true rfl) ?_
    refine gq_tog (g := ge_m (p_addm g k [11, 20, 10]) r (upd f 22 (nI (k + 3)))) (congrArg (fun q => ge_m q r (upd f 22 (nI (k + 3)))) (p_addm_app g k [11] [20, 10]).symm) ?_
    refine gq_iconst (pc := 19) dX12_looksIn_19 kc_2 ?_
    refine gq_imul (pc := 20) dX12_looksIn_20 ?_
    exact gq_iret (pc := 21) rfl dX12_looksIn_21 ⟨rfl, rfl⟩
set_option maxHeartbeats 400000 in
theorem m_looks_1_1 {n m a : Int32} {k : Nat} (hk2 : k + 3 ≤ 40) (hN : f 24 = n) (hM : f 25 = m) (hV : f 23 = 1) : ge_N X ge_SH YX12_looksIn 5 [.ref (ge_ad X.1 76), .int 1, .int a] (ge_m g r (upd f 22 (nI k))) (some (.int (((a + n) * 3) * 2))) (ge_m (p_addm g k [11, 20, 10]) r (upd f 22 (nI (k + 3)))) := by
  refine gq_ofB (l := [(0, .ref (ge_ad X.1 76)), (1, .int 1), (2, .int a)]) (by decide) (Nat.le_of_ble_eq_true rfl) rfl ?_
  refine gq_iload_n (pc := 0) dX12_looksIn_0 rfl ?_
  refine gq_if_ne (pc := 1) 22 dX12_looksIn_1 (by decide) (fun h_1 => ?_) (fun h_1 => ?_)
  · refine gq_iload_n (pc := 22) dX12_looksIn_22 rfl ?_
    refine gq_iconst (pc := 23) dX12_looksIn_23 kc_2 ?_
    refine gq_ic_ne (pc := 24) 52 dX12_looksIn_24 (by decide) (fun h_24 => ?_) (fun h_24 => ?_)
    · refine gq_iload_n (pc := 52) dX12_looksIn_52 rfl ?_
      refine gq_iconst (pc := 53) dX12_looksIn_53 kc_5 ?_
      refine gq_ic_ne (pc := 54) 72 dX12_looksIn_54 (by decide) (fun h_54 => ?_) (fun h_54 => ?_)
      · refine gq_aload_n (pc := 72) dX12_looksIn_72 rfl ?_
        refine gq_iload_n (pc := 73) dX12_looksIn_73 rfl ?_
        refine gq_rS1i (pc := 74) dX12_looksIn_74 cs_X12_93 (k_above _) ⟨by decide, by decide⟩ (Nat.le_of_ble_eq_true rfl) ?_
        refine gq_tov (v := 0) (by decide) ?_
        refine gq_iload_n (pc := 77) dX12_looksIn_77 rfl ?_
        refine gq_rV2i (pc := 78) dX12_looksIn_78 cv_X12_246 sh_76 (m_looks_0_1 (k := k) (by omega) hN hM hV) ⟨by decide, by decide⟩ rfl rfl (Nat.le_of_ble_eq_true rfl) ?_
        exact gq_iret (pc := 81) rfl dX12_looksIn_81 ⟨rfl, rfl⟩
      · exact absurd h_54 (by decide)
    · exact absurd h_24 (by decide)
  · exact absurd h_1 (by decide)
set_option maxHeartbeats 400000 in
theorem m_tells_0_1 {n m a : Int32} {k : Nat} (hk2 : k + 5 ≤ 40) (hN : f 24 = n) (hM : f 25 = m) (hV : f 23 = 1) : ge_N X ge_SH YX12_tellsIn 6 [.ref (ge_ad X.1 76), .int 0, .int a] (ge_m g r (upd f 22 (nI k))) (some (.int ((((a + n) * 3) * 2) ^^^ (a - m)))) (ge_m (p_addm g k [13, 11, 20, 10, 12]) r (upd f 22 (nI (k + 5)))) := by
  refine gq_ofB (l := [(0, .ref (ge_ad X.1 76)), (1, .int 0), (2, .int a)]) (by decide) (Nat.le_of_ble_eq_true rfl) rfl ?_
  refine gq_iload_n (pc := 0) dX12_tellsIn_0 rfl ?_
  refine gq_if_ne (pc := 1) 32 dX12_tellsIn_1 (by decide) (fun h_1 => ?_) (fun h_1 => ?_)
  · exact absurd h_1 (by decide)
  · refine gq_aload_n (pc := 4) dX12_tellsIn_4 rfl ?_
    refine gq_bipush (pc := 5) dX12_tellsIn_5 kb_13 ?_
    refine gq_rV1v (pc := 7) dX12_tellsIn_7 cv_X12_228 sh_76 (m_ran (by omega)) ⟨by decide, by decide⟩ rfl rfl (Nat.le_of_ble_eq_true rfl) ?_
    refine gq_aload_n (pc := 10) dX12_tellsIn_10 rfl ?_
    refine gq_aload_n (pc := 11) dX12_tellsIn_11 rfl ?_
    refine qw_get (v := 1) (pc := 12) dX12_tellsIn_12 fl_X12_243_12 sh_76 rfl hV (by decide) ?_
    refine gq_iload_n (pc := 15) dX12_tellsIn_15 rfl ?_
    refine gq_rV2i (pc := 16) dX12_tellsIn_16 cv_X12_246 sh_76 (m_looks_1_1 (g := p_addm g k [13]) (k := k + 1) (by omega) hN hM hV) ⟨by decide, by decide⟩ rfl rfl (Nat.le_of_ble_eq_true rfl) ?_
    refine gq_tog (g := ge_m (p_addm g k [13, 11, 20, 10]) r (upd f 22 (nI (k + 4)))) (congrArg (fun q => ge_m q r (upd f 22 (nI (k + 4)))) (p_addm_app g k [13] [11, 20, 10]).symm) ?_
    refine gq_istore_n (pc := 19) (l' := [(3, _), (0, _), (1, _), (2, _)]) dX12_tellsIn_19 (by decide) rfl ?_
    refine gq_iload_n (pc := 20) dX12_tellsIn_20 rfl ?_
    refine gq_aload_n (pc := 21) dX12_tellsIn_21 rfl ?_
    refine gq_aload_n (pc := 22) dX12_tellsIn_22 rfl ?_
    refine qw_get (v := 1) (pc := 23) dX12_tellsIn_23 fl_X12_243_12 sh_76 rfl hV (by decide) ?_
    refine gq_iload_n (pc := 26) dX12_tellsIn_26 rfl ?_
    refine gq_rV2i (pc := 27) dX12_tellsIn_27 cv_X12_240 sh_76 (m_blinks_1 (g := p_addm g k [13, 11, 20, 10]) (k := k + 4) (by omega) hN hM) ⟨by decide, by decide⟩ rfl rfl (Nat.le_of_ble_eq_true rfl) ?_
    refine gq_tog (g := ge_m (p_addm g k [13, 11, 20, 10, 12]) r (upd f 22 (nI (k + 5)))) (congrArg (fun q => ge_m q r (upd f 22 (nI (k + 5)))) (p_addm_app g k [13, 11, 20, 10] [12]).symm) ?_
    refine gq_ixor (pc := 30) dX12_tellsIn_30 ?_
    exact gq_iret (pc := 31) rfl dX12_tellsIn_31 ⟨rfl, rfl⟩
set_option maxHeartbeats 400000 in
theorem m_tells_1_1 {n m a : Int32} {k : Nat} (hk2 : k + 5 ≤ 40) (hN : f 24 = n) (hM : f 25 = m) (hV : f 23 = 1) : ge_N X ge_SH YX12_tellsIn 7 [.ref (ge_ad X.1 76), .int 1, .int a] (ge_m g r (upd f 22 (nI k))) (some (.int ((((a + n) * 3) * 2) ^^^ (a - m)))) (ge_m (p_addm g k [13, 11, 20, 10, 12]) r (upd f 22 (nI (k + 5)))) := by
  refine gq_ofB (l := [(0, .ref (ge_ad X.1 76)), (1, .int 1), (2, .int a)]) (by decide) (Nat.le_of_ble_eq_true rfl) rfl ?_
  refine gq_iload_n (pc := 0) dX12_tellsIn_0 rfl ?_
  refine gq_if_ne (pc := 1) 32 dX12_tellsIn_1 (by decide) (fun h_1 => ?_) (fun h_1 => ?_)
  · refine gq_iload_n (pc := 32) dX12_tellsIn_32 rfl ?_
    refine gq_iconst (pc := 33) dX12_tellsIn_33 kc_4 ?_
    refine gq_ic_ne (pc := 34) 62 dX12_tellsIn_34 (by decide) (fun h_34 => ?_) (fun h_34 => ?_)
    · refine gq_iload_n (pc := 62) dX12_tellsIn_62 rfl ?_
      refine gq_bipush (pc := 63) dX12_tellsIn_63 kb_6 ?_
      refine gq_ic_ne (pc := 65) 93 dX12_tellsIn_65 (by decide) (fun h_65 => ?_) (fun h_65 => ?_)
      · refine gq_aload_n (pc := 93) dX12_tellsIn_93 rfl ?_
        refine gq_iload_n (pc := 94) dX12_tellsIn_94 rfl ?_
        refine gq_rS1i (pc := 95) dX12_tellsIn_95 cs_X12_93 (k_above _) ⟨by decide, by decide⟩ (Nat.le_of_ble_eq_true rfl) ?_
        refine gq_tov (v := 0) (by decide) ?_
        refine gq_iload_n (pc := 98) dX12_tellsIn_98 rfl ?_
        refine gq_rV2i (pc := 99) dX12_tellsIn_99 cv_X12_249 sh_76 (m_tells_0_1 (k := k) (by omega) hN hM hV) ⟨by decide, by decide⟩ rfl rfl (Nat.le_of_ble_eq_true rfl) ?_
        exact gq_iret (pc := 102) rfl dX12_tellsIn_102 ⟨rfl, rfl⟩
      · exact absurd h_65 (by decide)
    · exact absurd h_34 (by decide)
  · exact absurd h_1 (by decide)
set_option maxHeartbeats 400000 in
theorem m_sees_2 {n m a : Int32} {k : Nat} (hk2 : k + 1 ≤ 40) (hN : f 24 = n) (hM : f 25 = m) : ge_N X ge_SH YX12_seesIn 3 [.ref (ge_ad X.1 76), .int 2, .int a] (ge_m g r (upd f 22 (nI k))) (some (.int (a + n))) (ge_m (p_addm g k [10]) r (upd f 22 (nI (k + 1)))) := by
  refine gq_ofB (l := [(0, .ref (ge_ad X.1 76)), (1, .int 2), (2, .int a)]) (by decide) (Nat.le_of_ble_eq_true rfl) rfl ?_
  refine gq_iload_n (pc := 0) dX12_seesIn_0 rfl ?_
  refine gq_if_ne (pc := 1) 17 dX12_seesIn_1 (by decide) (fun h_1 => ?_) (fun h_1 => ?_)
  · refine gq_iload_n (pc := 17) dX12_seesIn_17 rfl ?_
    refine gq_iconst (pc := 18) dX12_seesIn_18 kc_1 ?_
    refine gq_ic_ne (pc := 19) 37 dX12_seesIn_19 (by decide) (fun h_19 => ?_) (fun h_19 => ?_)
    · refine gq_aload_n (pc := 37) dX12_seesIn_37 rfl ?_
      refine gq_iload_n (pc := 38) dX12_seesIn_38 rfl ?_
      refine gq_rS1i (pc := 39) dX12_seesIn_39 cs_X12_93 (k_above _) ⟨by decide, by decide⟩ (Nat.le_of_ble_eq_true rfl) ?_
      refine gq_tov (v := 0) (by decide) ?_
      refine gq_iload_n (pc := 42) dX12_seesIn_42 rfl ?_
      refine gq_rV2i (pc := 43) dX12_seesIn_43 cv_X12_234 sh_76 (m_sees_0 (k := k) (by omega) hN hM) ⟨by decide, by decide⟩ rfl rfl (Nat.le_of_ble_eq_true rfl) ?_
      exact gq_iret (pc := 46) rfl dX12_seesIn_46 ⟨rfl, rfl⟩
    · exact absurd h_19 (by decide)
  · exact absurd h_1 (by decide)
set_option maxHeartbeats 400000 in
theorem m_blinks_2 {n m a : Int32} {k : Nat} (hk2 : k + 1 ≤ 40) (hN : f 24 = n) (hM : f 25 = m) : ge_N X ge_SH YX12_blinksIn 3 [.ref (ge_ad X.1 76), .int 2, .int a] (ge_m g r (upd f 22 (nI k))) (some (.int (a - m))) (ge_m (p_addm g k [12]) r (upd f 22 (nI (k + 1)))) := by
  refine gq_ofB (l := [(0, .ref (ge_ad X.1 76)), (1, .int 2), (2, .int a)]) (by decide) (Nat.le_of_ble_eq_true rfl) rfl ?_
  refine gq_iload_n (pc := 0) dX12_blinksIn_0 rfl ?_
  refine gq_if_ne (pc := 1) 17 dX12_blinksIn_1 (by decide) (fun h_1 => ?_) (fun h_1 => ?_)
  · refine gq_iload_n (pc := 17) dX12_blinksIn_17 rfl ?_
    refine gq_iconst (pc := 18) dX12_blinksIn_18 kc_3 ?_
    refine gq_ic_ne (pc := 19) 36 dX12_blinksIn_19 (by decide) (fun h_19 => ?_) (fun h_19 => ?_)
    · refine gq_iload_n (pc := 36) dX12_blinksIn_36 rfl ?_
      refine gq_bipush (pc := 37) dX12_blinksIn_37 kb_6 ?_
      refine gq_ic_ne (pc := 39) 60 dX12_blinksIn_39 (by decide) (fun h_39 => ?_) (fun h_39 => ?_)
      · refine gq_aload_n (pc := 60) dX12_blinksIn_60 rfl ?_
        refine gq_iload_n (pc := 61) dX12_blinksIn_61 rfl ?_
        refine gq_rS1i (pc := 62) dX12_blinksIn_62 cs_X12_93 (k_above _) ⟨by decide, by decide⟩ (Nat.le_of_ble_eq_true rfl) ?_
        refine gq_tov (v := 0) (by decide) ?_
        refine gq_iload_n (pc := 65) dX12_blinksIn_65 rfl ?_
        refine gq_rV2i (pc := 66) dX12_blinksIn_66 cv_X12_240 sh_76 (m_blinks_0 (k := k) (by omega) hN hM) ⟨by decide, by decide⟩ rfl rfl (Nat.le_of_ble_eq_true rfl) ?_
        exact gq_iret (pc := 69) rfl dX12_blinksIn_69 ⟨rfl, rfl⟩
      · exact absurd h_39 (by decide)
    · exact absurd h_19 (by decide)
  · exact absurd h_1 (by decide)
set_option maxHeartbeats 400000 in
theorem m_looks_0_2 {n m a : Int32} {k : Nat} (hk2 : k + 2 ≤ 40) (hN : f 24 = n) (hM : f 25 = m) (hV : f 23 = 2) : ge_N X ge_SH YX12_looksIn 4 [.ref (ge_ad X.1 76), .int 0, .int a] (ge_m g r (upd f 22 (nI k))) (some (.int ((a + n) * 2))) (ge_m (p_addm g k [11, 10]) r (upd f 22 (nI (k + 2)))) := by
  refine gq_ofB (l := [(0, .ref (ge_ad X.1 76)), (1, .int 0), (2, .int a)]) (by decide) (Nat.le_of_ble_eq_true rfl) rfl ?_
  refine gq_iload_n (pc := 0) dX12_looksIn_0 rfl ?_
  refine gq_if_ne (pc := 1) 22 dX12_looksIn_1 (by decide) (fun h_1 => ?_) (fun h_1 => ?_)
  · exact absurd h_1 (by decide)
  · refine gq_aload_n (pc := 4) dX12_looksIn_4 rfl ?_
    refine gq_bipush (pc := 5) dX12_looksIn_5 kb_11 ?_
    refine gq_rV1v (pc := 7) dX12_looksIn_7 cv_X12_228 sh_76 (m_ran (by omega)) ⟨by decide, by decide⟩ rfl rfl (Nat.le_of_ble_eq_true rfl) ?_
    refine gq_aload_n (pc := 10) dX12_looksIn_10 rfl ?_
    refine gq_aload_n (pc := 11) dX12_looksIn_11 rfl ?_
    refine qw_get (v := 2) (pc := 12) dX12_looksIn_12 fl_X12_243_12 sh_76 rfl hV (by decide) ?_
    refine gq_iload_n (pc := 15) dX12_looksIn_15 rfl ?_
    refine gq_rV2i (pc := 16) dX12_looksIn_16 cv_X12_234 sh_76 (m_sees_2 (g := p_addm g k [11]) (k := k + 1) (by omega) hN hM) ⟨by decide, by decide⟩ rfl rfl (Nat.le_of_ble_eq_true rfl) ?_
    refine gq_tog (g := ge_m (p_addm g k [11, 10]) r (upd f 22 (nI (k + 2)))) (congrArg (fun q => ge_m q r (upd f 22 (nI (k + 2)))) (p_addm_app g k [11] [10]).symm) ?_
    refine gq_iconst (pc := 19) dX12_looksIn_19 kc_2 ?_
    refine gq_imul (pc := 20) dX12_looksIn_20 ?_
    exact gq_iret (pc := 21) rfl dX12_looksIn_21 ⟨rfl, rfl⟩
set_option maxHeartbeats 400000 in
theorem m_looks_2_2 {n m a : Int32} {k : Nat} (hk2 : k + 4 ≤ 40) (hN : f 24 = n) (hM : f 25 = m) (hV : f 23 = 2) : ge_N X ge_SH YX12_looksIn 5 [.ref (ge_ad X.1 76), .int 2, .int a] (ge_m g r (upd f 22 (nI k))) (some (.int (((a + n) * 2) - (1 - m)))) (ge_m (p_addm g k [30, 11, 10, 12]) r (upd f 22 (nI (k + 4)))) := by
  refine gq_ofB (l := [(0, .ref (ge_ad X.1 76)), (1, .int 2), (2, .int a)]) (by decide) (Nat.le_of_ble_eq_true rfl) rfl ?_
  refine gq_iload_n (pc := 0) dX12_looksIn_0 rfl ?_
  refine gq_if_ne (pc := 1) 22 dX12_looksIn_1 (by decide) (fun h_1 => ?_) (fun h_1 => ?_)
  · refine gq_iload_n (pc := 22) dX12_looksIn_22 rfl ?_
    refine gq_iconst (pc := 23) dX12_looksIn_23 kc_2 ?_
    refine gq_ic_ne (pc := 24) 52 dX12_looksIn_24 (by decide) (fun h_24 => ?_) (fun h_24 => ?_)
    · exact absurd h_24 (by decide)
    · refine gq_aload_n (pc := 27) dX12_looksIn_27 rfl ?_
      refine gq_bipush (pc := 28) dX12_looksIn_28 kb_30 ?_
      refine gq_rV1v (pc := 30) dX12_looksIn_30 cv_X12_228 sh_76 (m_ran (by omega)) ⟨by decide, by decide⟩ rfl rfl (Nat.le_of_ble_eq_true rfl) ?_
      refine gq_aload_n (pc := 33) dX12_looksIn_33 rfl ?_
      refine gq_iconst (pc := 34) dX12_looksIn_34 kc_0 ?_
      refine gq_iload_n (pc := 35) dX12_looksIn_35 rfl ?_
      refine gq_rV2i (pc := 36) dX12_looksIn_36 cv_X12_246 sh_76 (m_looks_0_2 (g := p_addm g k [30]) (k := k + 1) (by omega) hN hM hV) ⟨by decide, by decide⟩ rfl rfl (Nat.le_of_ble_eq_true rfl) ?_
      refine gq_tog (g := ge_m (p_addm g k [30, 11, 10]) r (upd f 22 (nI (k + 3)))) (congrArg (fun q => ge_m q r (upd f 22 (nI (k + 3)))) (p_addm_app g k [30] [11, 10]).symm) ?_
      refine gq_istore_n (pc := 39) (l' := [(3, _), (0, _), (1, _), (2, _)]) dX12_looksIn_39 (by decide) rfl ?_
      refine gq_iload_n (pc := 40) dX12_looksIn_40 rfl ?_
      refine gq_aload_n (pc := 41) dX12_looksIn_41 rfl ?_
      refine gq_aload_n (pc := 42) dX12_looksIn_42 rfl ?_
      refine qw_get (v := 2) (pc := 43) dX12_looksIn_43 fl_X12_243_12 sh_76 rfl hV (by decide) ?_
      refine gq_iconst (pc := 46) dX12_looksIn_46 kc_1 ?_
      refine gq_rV2i (pc := 47) dX12_looksIn_47 cv_X12_240 sh_76 (m_blinks_2 (g := p_addm g k [30, 11, 10]) (k := k + 3) (by omega) hN hM) ⟨by decide, by decide⟩ rfl rfl (Nat.le_of_ble_eq_true rfl) ?_
      refine gq_tog (g := ge_m (p_addm g k [30, 11, 10, 12]) r (upd f 22 (nI (k + 4)))) (congrArg (fun q => ge_m q r (upd f 22 (nI (k + 4)))) (p_addm_app g k [30, 11, 10] [12]).symm) ?_
      refine gq_isub (pc := 50) dX12_looksIn_50 ?_
      exact gq_iret (pc := 51) rfl dX12_looksIn_51 ⟨rfl, rfl⟩
  · exact absurd h_1 (by decide)
set_option maxHeartbeats 400000 in
theorem m_tells_0_2 {n m a : Int32} {k : Nat} (hk2 : k + 6 ≤ 40) (hN : f 24 = n) (hM : f 25 = m) (hV : f 23 = 2) : ge_N X ge_SH YX12_tellsIn 6 [.ref (ge_ad X.1 76), .int 0, .int a] (ge_m g r (upd f 22 (nI k))) (some (.int ((((a + n) * 2) - (1 - m)) ^^^ (a - m)))) (ge_m (p_addm g k [13, 30, 11, 10, 12, 12]) r (upd f 22 (nI (k + 6)))) := by
  refine gq_ofB (l := [(0, .ref (ge_ad X.1 76)), (1, .int 0), (2, .int a)]) (by decide) (Nat.le_of_ble_eq_true rfl) rfl ?_
  refine gq_iload_n (pc := 0) dX12_tellsIn_0 rfl ?_
  refine gq_if_ne (pc := 1) 32 dX12_tellsIn_1 (by decide) (fun h_1 => ?_) (fun h_1 => ?_)
  · exact absurd h_1 (by decide)
  · refine gq_aload_n (pc := 4) dX12_tellsIn_4 rfl ?_
    refine gq_bipush (pc := 5) dX12_tellsIn_5 kb_13 ?_
    refine gq_rV1v (pc := 7) dX12_tellsIn_7 cv_X12_228 sh_76 (m_ran (by omega)) ⟨by decide, by decide⟩ rfl rfl (Nat.le_of_ble_eq_true rfl) ?_
    refine gq_aload_n (pc := 10) dX12_tellsIn_10 rfl ?_
    refine gq_aload_n (pc := 11) dX12_tellsIn_11 rfl ?_
    refine qw_get (v := 2) (pc := 12) dX12_tellsIn_12 fl_X12_243_12 sh_76 rfl hV (by decide) ?_
    refine gq_iload_n (pc := 15) dX12_tellsIn_15 rfl ?_
    refine gq_rV2i (pc := 16) dX12_tellsIn_16 cv_X12_246 sh_76 (m_looks_2_2 (g := p_addm g k [13]) (k := k + 1) (by omega) hN hM hV) ⟨by decide, by decide⟩ rfl rfl (Nat.le_of_ble_eq_true rfl) ?_
    refine gq_tog (g := ge_m (p_addm g k [13, 30, 11, 10, 12]) r (upd f 22 (nI (k + 5)))) (congrArg (fun q => ge_m q r (upd f 22 (nI (k + 5)))) (p_addm_app g k [13] [30, 11, 10, 12]).symm) ?_
    refine gq_istore_n (pc := 19) (l' := [(3, _), (0, _), (1, _), (2, _)]) dX12_tellsIn_19 (by decide) rfl ?_
    refine gq_iload_n (pc := 20) dX12_tellsIn_20 rfl ?_
    refine gq_aload_n (pc := 21) dX12_tellsIn_21 rfl ?_
    refine gq_aload_n (pc := 22) dX12_tellsIn_22 rfl ?_
    refine qw_get (v := 2) (pc := 23) dX12_tellsIn_23 fl_X12_243_12 sh_76 rfl hV (by decide) ?_
    refine gq_iload_n (pc := 26) dX12_tellsIn_26 rfl ?_
    refine gq_rV2i (pc := 27) dX12_tellsIn_27 cv_X12_240 sh_76 (m_blinks_2 (g := p_addm g k [13, 30, 11, 10, 12]) (k := k + 5) (by omega) hN hM) ⟨by decide, by decide⟩ rfl rfl (Nat.le_of_ble_eq_true rfl) ?_
    refine gq_tog (g := ge_m (p_addm g k [13, 30, 11, 10, 12, 12]) r (upd f 22 (nI (k + 6)))) (congrArg (fun q => ge_m q r (upd f 22 (nI (k + 6)))) (p_addm_app g k [13, 30, 11, 10, 12] [12]).symm) ?_
    refine gq_ixor (pc := 30) dX12_tellsIn_30 ?_
    exact gq_iret (pc := 31) rfl dX12_tellsIn_31 ⟨rfl, rfl⟩
set_option maxHeartbeats 400000 in
theorem m_tells_2_2 {n m a : Int32} {k : Nat} (hk2 : k + 6 ≤ 40) (hN : f 24 = n) (hM : f 25 = m) (hV : f 23 = 2) : ge_N X ge_SH YX12_tellsIn 7 [.ref (ge_ad X.1 76), .int 2, .int a] (ge_m g r (upd f 22 (nI k))) (some (.int ((((a + n) * 2) - (1 - m)) ^^^ (a - m)))) (ge_m (p_addm g k [13, 30, 11, 10, 12, 12]) r (upd f 22 (nI (k + 6)))) := by
  refine gq_ofB (l := [(0, .ref (ge_ad X.1 76)), (1, .int 2), (2, .int a)]) (by decide) (Nat.le_of_ble_eq_true rfl) rfl ?_
  refine gq_iload_n (pc := 0) dX12_tellsIn_0 rfl ?_
  refine gq_if_ne (pc := 1) 32 dX12_tellsIn_1 (by decide) (fun h_1 => ?_) (fun h_1 => ?_)
  · refine gq_iload_n (pc := 32) dX12_tellsIn_32 rfl ?_
    refine gq_iconst (pc := 33) dX12_tellsIn_33 kc_4 ?_
    refine gq_ic_ne (pc := 34) 62 dX12_tellsIn_34 (by decide) (fun h_34 => ?_) (fun h_34 => ?_)
    · refine gq_iload_n (pc := 62) dX12_tellsIn_62 rfl ?_
      refine gq_bipush (pc := 63) dX12_tellsIn_63 kb_6 ?_
      refine gq_ic_ne (pc := 65) 93 dX12_tellsIn_65 (by decide) (fun h_65 => ?_) (fun h_65 => ?_)
      · refine gq_aload_n (pc := 93) dX12_tellsIn_93 rfl ?_
        refine gq_iload_n (pc := 94) dX12_tellsIn_94 rfl ?_
        refine gq_rS1i (pc := 95) dX12_tellsIn_95 cs_X12_93 (k_above _) ⟨by decide, by decide⟩ (Nat.le_of_ble_eq_true rfl) ?_
        refine gq_tov (v := 0) (by decide) ?_
        refine gq_iload_n (pc := 98) dX12_tellsIn_98 rfl ?_
        refine gq_rV2i (pc := 99) dX12_tellsIn_99 cv_X12_249 sh_76 (m_tells_0_2 (k := k) (by omega) hN hM hV) ⟨by decide, by decide⟩ rfl rfl (Nat.le_of_ble_eq_true rfl) ?_
        exact gq_iret (pc := 102) rfl dX12_tellsIn_102 ⟨rfl, rfl⟩
      · exact absurd h_65 (by decide)
    · exact absurd h_34 (by decide)
  · exact absurd h_1 (by decide)
set_option maxHeartbeats 400000 in
theorem m_sees_3 {n m a : Int32} {k : Nat} (hk2 : k + 1 ≤ 40) (hN : f 24 = n) (hM : f 25 = m) : ge_N X ge_SH YX12_seesIn 3 [.ref (ge_ad X.1 76), .int 3, .int a] (ge_m g r (upd f 22 (nI k))) (some (.int (a + n))) (ge_m (p_addm g k [10]) r (upd f 22 (nI (k + 1)))) := by
  refine gq_ofB (l := [(0, .ref (ge_ad X.1 76)), (1, .int 3), (2, .int a)]) (by decide) (Nat.le_of_ble_eq_true rfl) rfl ?_
  refine gq_iload_n (pc := 0) dX12_seesIn_0 rfl ?_
  refine gq_if_ne (pc := 1) 17 dX12_seesIn_1 (by decide) (fun h_1 => ?_) (fun h_1 => ?_)
  · refine gq_iload_n (pc := 17) dX12_seesIn_17 rfl ?_
    refine gq_iconst (pc := 18) dX12_seesIn_18 kc_1 ?_
    refine gq_ic_ne (pc := 19) 37 dX12_seesIn_19 (by decide) (fun h_19 => ?_) (fun h_19 => ?_)
    · refine gq_aload_n (pc := 37) dX12_seesIn_37 rfl ?_
      refine gq_iload_n (pc := 38) dX12_seesIn_38 rfl ?_
      refine gq_rS1i (pc := 39) dX12_seesIn_39 cs_X12_93 (k_above _) ⟨by decide, by decide⟩ (Nat.le_of_ble_eq_true rfl) ?_
      refine gq_tov (v := 0) (by decide) ?_
      refine gq_iload_n (pc := 42) dX12_seesIn_42 rfl ?_
      refine gq_rV2i (pc := 43) dX12_seesIn_43 cv_X12_234 sh_76 (m_sees_0 (k := k) (by omega) hN hM) ⟨by decide, by decide⟩ rfl rfl (Nat.le_of_ble_eq_true rfl) ?_
      exact gq_iret (pc := 46) rfl dX12_seesIn_46 ⟨rfl, rfl⟩
    · exact absurd h_19 (by decide)
  · exact absurd h_1 (by decide)
set_option maxHeartbeats 400000 in
theorem m_blinks_3 {n m a : Int32} {k : Nat} (hk2 : k + 2 ≤ 40) (hN : f 24 = n) (hM : f 25 = m) : ge_N X ge_SH YX12_blinksIn 3 [.ref (ge_ad X.1 76), .int 3, .int a] (ge_m g r (upd f 22 (nI k))) (some (.int (-(a - m)))) (ge_m (p_addm g k [40, 12]) r (upd f 22 (nI (k + 2)))) := by
  refine gq_ofB (l := [(0, .ref (ge_ad X.1 76)), (1, .int 3), (2, .int a)]) (by decide) (Nat.le_of_ble_eq_true rfl) rfl ?_
  refine gq_iload_n (pc := 0) dX12_blinksIn_0 rfl ?_
  refine gq_if_ne (pc := 1) 17 dX12_blinksIn_1 (by decide) (fun h_1 => ?_) (fun h_1 => ?_)
  · refine gq_iload_n (pc := 17) dX12_blinksIn_17 rfl ?_
    refine gq_iconst (pc := 18) dX12_blinksIn_18 kc_3 ?_
    refine gq_ic_ne (pc := 19) 36 dX12_blinksIn_19 (by decide) (fun h_19 => ?_) (fun h_19 => ?_)
    · exact absurd h_19 (by decide)
    · refine gq_aload_n (pc := 22) dX12_blinksIn_22 rfl ?_
      refine gq_bipush (pc := 23) dX12_blinksIn_23 kb_40 ?_
      refine gq_rV1v (pc := 25) dX12_blinksIn_25 cv_X12_228 sh_76 (m_ran (by omega)) ⟨by decide, by decide⟩ rfl rfl (Nat.le_of_ble_eq_true rfl) ?_
      refine gq_aload_n (pc := 28) dX12_blinksIn_28 rfl ?_
      refine gq_iconst (pc := 29) dX12_blinksIn_29 kc_0 ?_
      refine gq_iload_n (pc := 30) dX12_blinksIn_30 rfl ?_
      refine gq_rV2i (pc := 31) dX12_blinksIn_31 cv_X12_240 sh_76 (m_blinks_0 (g := p_addm g k [40]) (k := k + 1) (by omega) hN hM) ⟨by decide, by decide⟩ rfl rfl (Nat.le_of_ble_eq_true rfl) ?_
      refine gq_tog (g := ge_m (p_addm g k [40, 12]) r (upd f 22 (nI (k + 2)))) (congrArg (fun q => ge_m q r (upd f 22 (nI (k + 2)))) (p_addm_app g k [40] [12]).symm) ?_
      refine gq_ineg (pc := 34) dX12_blinksIn_34 ?_
      exact gq_iret (pc := 35) rfl dX12_blinksIn_35 ⟨rfl, rfl⟩
  · exact absurd h_1 (by decide)
set_option maxHeartbeats 400000 in
theorem m_looks_0_3 {n m a : Int32} {k : Nat} (hk2 : k + 2 ≤ 40) (hN : f 24 = n) (hM : f 25 = m) (hV : f 23 = 3) : ge_N X ge_SH YX12_looksIn 4 [.ref (ge_ad X.1 76), .int 0, .int a] (ge_m g r (upd f 22 (nI k))) (some (.int ((a + n) * 2))) (ge_m (p_addm g k [11, 10]) r (upd f 22 (nI (k + 2)))) := by
  refine gq_ofB (l := [(0, .ref (ge_ad X.1 76)), (1, .int 0), (2, .int a)]) (by decide) (Nat.le_of_ble_eq_true rfl) rfl ?_
  refine gq_iload_n (pc := 0) dX12_looksIn_0 rfl ?_
  refine gq_if_ne (pc := 1) 22 dX12_looksIn_1 (by decide) (fun h_1 => ?_) (fun h_1 => ?_)
  · exact absurd h_1 (by decide)
  · refine gq_aload_n (pc := 4) dX12_looksIn_4 rfl ?_
    refine gq_bipush (pc := 5) dX12_looksIn_5 kb_11 ?_
    refine gq_rV1v (pc := 7) dX12_looksIn_7 cv_X12_228 sh_76 (m_ran (by omega)) ⟨by decide, by decide⟩ rfl rfl (Nat.le_of_ble_eq_true rfl) ?_
    refine gq_aload_n (pc := 10) dX12_looksIn_10 rfl ?_
    refine gq_aload_n (pc := 11) dX12_looksIn_11 rfl ?_
    refine qw_get (v := 3) (pc := 12) dX12_looksIn_12 fl_X12_243_12 sh_76 rfl hV (by decide) ?_
    refine gq_iload_n (pc := 15) dX12_looksIn_15 rfl ?_
    refine gq_rV2i (pc := 16) dX12_looksIn_16 cv_X12_234 sh_76 (m_sees_3 (g := p_addm g k [11]) (k := k + 1) (by omega) hN hM) ⟨by decide, by decide⟩ rfl rfl (Nat.le_of_ble_eq_true rfl) ?_
    refine gq_tog (g := ge_m (p_addm g k [11, 10]) r (upd f 22 (nI (k + 2)))) (congrArg (fun q => ge_m q r (upd f 22 (nI (k + 2)))) (p_addm_app g k [11] [10]).symm) ?_
    refine gq_iconst (pc := 19) dX12_looksIn_19 kc_2 ?_
    refine gq_imul (pc := 20) dX12_looksIn_20 ?_
    exact gq_iret (pc := 21) rfl dX12_looksIn_21 ⟨rfl, rfl⟩
set_option maxHeartbeats 400000 in
theorem m_looks_3_3 {n m a : Int32} {k : Nat} (hk2 : k + 2 ≤ 40) (hN : f 24 = n) (hM : f 25 = m) (hV : f 23 = 3) : ge_N X ge_SH YX12_looksIn 5 [.ref (ge_ad X.1 76), .int 3, .int a] (ge_m g r (upd f 22 (nI k))) (some (.int ((a + n) * 2))) (ge_m (p_addm g k [11, 10]) r (upd f 22 (nI (k + 2)))) := by
  refine gq_ofB (l := [(0, .ref (ge_ad X.1 76)), (1, .int 3), (2, .int a)]) (by decide) (Nat.le_of_ble_eq_true rfl) rfl ?_
  refine gq_iload_n (pc := 0) dX12_looksIn_0 rfl ?_
  refine gq_if_ne (pc := 1) 22 dX12_looksIn_1 (by decide) (fun h_1 => ?_) (fun h_1 => ?_)
  · refine gq_iload_n (pc := 22) dX12_looksIn_22 rfl ?_
    refine gq_iconst (pc := 23) dX12_looksIn_23 kc_2 ?_
    refine gq_ic_ne (pc := 24) 52 dX12_looksIn_24 (by decide) (fun h_24 => ?_) (fun h_24 => ?_)
    · refine gq_iload_n (pc := 52) dX12_looksIn_52 rfl ?_
      refine gq_iconst (pc := 53) dX12_looksIn_53 kc_5 ?_
      refine gq_ic_ne (pc := 54) 72 dX12_looksIn_54 (by decide) (fun h_54 => ?_) (fun h_54 => ?_)
      · refine gq_aload_n (pc := 72) dX12_looksIn_72 rfl ?_
        refine gq_iload_n (pc := 73) dX12_looksIn_73 rfl ?_
        refine gq_rS1i (pc := 74) dX12_looksIn_74 cs_X12_93 (k_above _) ⟨by decide, by decide⟩ (Nat.le_of_ble_eq_true rfl) ?_
        refine gq_tov (v := 0) (by decide) ?_
        refine gq_iload_n (pc := 77) dX12_looksIn_77 rfl ?_
        refine gq_rV2i (pc := 78) dX12_looksIn_78 cv_X12_246 sh_76 (m_looks_0_3 (k := k) (by omega) hN hM hV) ⟨by decide, by decide⟩ rfl rfl (Nat.le_of_ble_eq_true rfl) ?_
        exact gq_iret (pc := 81) rfl dX12_looksIn_81 ⟨rfl, rfl⟩
      · exact absurd h_54 (by decide)
    · exact absurd h_24 (by decide)
  · exact absurd h_1 (by decide)
set_option maxHeartbeats 400000 in
theorem m_tells_0_3 {n m a : Int32} {k : Nat} (hk2 : k + 5 ≤ 40) (hN : f 24 = n) (hM : f 25 = m) (hV : f 23 = 3) : ge_N X ge_SH YX12_tellsIn 6 [.ref (ge_ad X.1 76), .int 0, .int a] (ge_m g r (upd f 22 (nI k))) (some (.int (((a + n) * 2) ^^^ (-(a - m))))) (ge_m (p_addm g k [13, 11, 10, 40, 12]) r (upd f 22 (nI (k + 5)))) := by
  refine gq_ofB (l := [(0, .ref (ge_ad X.1 76)), (1, .int 0), (2, .int a)]) (by decide) (Nat.le_of_ble_eq_true rfl) rfl ?_
  refine gq_iload_n (pc := 0) dX12_tellsIn_0 rfl ?_
  refine gq_if_ne (pc := 1) 32 dX12_tellsIn_1 (by decide) (fun h_1 => ?_) (fun h_1 => ?_)
  · exact absurd h_1 (by decide)
  · refine gq_aload_n (pc := 4) dX12_tellsIn_4 rfl ?_
    refine gq_bipush (pc := 5) dX12_tellsIn_5 kb_13 ?_
    refine gq_rV1v (pc := 7) dX12_tellsIn_7 cv_X12_228 sh_76 (m_ran (by omega)) ⟨by decide, by decide⟩ rfl rfl (Nat.le_of_ble_eq_true rfl) ?_
    refine gq_aload_n (pc := 10) dX12_tellsIn_10 rfl ?_
    refine gq_aload_n (pc := 11) dX12_tellsIn_11 rfl ?_
    refine qw_get (v := 3) (pc := 12) dX12_tellsIn_12 fl_X12_243_12 sh_76 rfl hV (by decide) ?_
    refine gq_iload_n (pc := 15) dX12_tellsIn_15 rfl ?_
    refine gq_rV2i (pc := 16) dX12_tellsIn_16 cv_X12_246 sh_76 (m_looks_3_3 (g := p_addm g k [13]) (k := k + 1) (by omega) hN hM hV) ⟨by decide, by decide⟩ rfl rfl (Nat.le_of_ble_eq_true rfl) ?_
    refine gq_tog (g := ge_m (p_addm g k [13, 11, 10]) r (upd f 22 (nI (k + 3)))) (congrArg (fun q => ge_m q r (upd f 22 (nI (k + 3)))) (p_addm_app g k [13] [11, 10]).symm) ?_
    refine gq_istore_n (pc := 19) (l' := [(3, _), (0, _), (1, _), (2, _)]) dX12_tellsIn_19 (by decide) rfl ?_
    refine gq_iload_n (pc := 20) dX12_tellsIn_20 rfl ?_
    refine gq_aload_n (pc := 21) dX12_tellsIn_21 rfl ?_
    refine gq_aload_n (pc := 22) dX12_tellsIn_22 rfl ?_
    refine qw_get (v := 3) (pc := 23) dX12_tellsIn_23 fl_X12_243_12 sh_76 rfl hV (by decide) ?_
    refine gq_iload_n (pc := 26) dX12_tellsIn_26 rfl ?_
    refine gq_rV2i (pc := 27) dX12_tellsIn_27 cv_X12_240 sh_76 (m_blinks_3 (g := p_addm g k [13, 11, 10]) (k := k + 3) (by omega) hN hM) ⟨by decide, by decide⟩ rfl rfl (Nat.le_of_ble_eq_true rfl) ?_
    refine gq_tog (g := ge_m (p_addm g k [13, 11, 10, 40, 12]) r (upd f 22 (nI (k + 5)))) (congrArg (fun q => ge_m q r (upd f 22 (nI (k + 5)))) (p_addm_app g k [13, 11, 10] [40, 12]).symm) ?_
    refine gq_ixor (pc := 30) dX12_tellsIn_30 ?_
    exact gq_iret (pc := 31) rfl dX12_tellsIn_31 ⟨rfl, rfl⟩
set_option maxHeartbeats 400000 in
theorem m_tells_3_3 {n m a : Int32} {k : Nat} (hk2 : k + 5 ≤ 40) (hN : f 24 = n) (hM : f 25 = m) (hV : f 23 = 3) : ge_N X ge_SH YX12_tellsIn 7 [.ref (ge_ad X.1 76), .int 3, .int a] (ge_m g r (upd f 22 (nI k))) (some (.int (((a + n) * 2) ^^^ (-(a - m))))) (ge_m (p_addm g k [13, 11, 10, 40, 12]) r (upd f 22 (nI (k + 5)))) := by
  refine gq_ofB (l := [(0, .ref (ge_ad X.1 76)), (1, .int 3), (2, .int a)]) (by decide) (Nat.le_of_ble_eq_true rfl) rfl ?_
  refine gq_iload_n (pc := 0) dX12_tellsIn_0 rfl ?_
  refine gq_if_ne (pc := 1) 32 dX12_tellsIn_1 (by decide) (fun h_1 => ?_) (fun h_1 => ?_)
  · refine gq_iload_n (pc := 32) dX12_tellsIn_32 rfl ?_
    refine gq_iconst (pc := 33) dX12_tellsIn_33 kc_4 ?_
    refine gq_ic_ne (pc := 34) 62 dX12_tellsIn_34 (by decide) (fun h_34 => ?_) (fun h_34 => ?_)
    · refine gq_iload_n (pc := 62) dX12_tellsIn_62 rfl ?_
      refine gq_bipush (pc := 63) dX12_tellsIn_63 kb_6 ?_
      refine gq_ic_ne (pc := 65) 93 dX12_tellsIn_65 (by decide) (fun h_65 => ?_) (fun h_65 => ?_)
      · refine gq_aload_n (pc := 93) dX12_tellsIn_93 rfl ?_
        refine gq_iload_n (pc := 94) dX12_tellsIn_94 rfl ?_
        refine gq_rS1i (pc := 95) dX12_tellsIn_95 cs_X12_93 (k_above _) ⟨by decide, by decide⟩ (Nat.le_of_ble_eq_true rfl) ?_
        refine gq_tov (v := 0) (by decide) ?_
        refine gq_iload_n (pc := 98) dX12_tellsIn_98 rfl ?_
        refine gq_rV2i (pc := 99) dX12_tellsIn_99 cv_X12_249 sh_76 (m_tells_0_3 (k := k) (by omega) hN hM hV) ⟨by decide, by decide⟩ rfl rfl (Nat.le_of_ble_eq_true rfl) ?_
        exact gq_iret (pc := 102) rfl dX12_tellsIn_102 ⟨rfl, rfl⟩
      · exact absurd h_65 (by decide)
    · exact absurd h_34 (by decide)
  · exact absurd h_1 (by decide)
set_option maxHeartbeats 400000 in
theorem m_sees_4 {n m a : Int32} {k : Nat} (hk2 : k + 2 ≤ 40) (hN : f 24 = n) (hM : f 25 = m) : ge_N X ge_SH YX12_seesIn 4 [.ref (ge_ad X.1 76), .int 4, .int a] (ge_m g r (upd f 22 (nI k))) (some (.int ((a + n) * 3))) (ge_m (p_addm g k [20, 10]) r (upd f 22 (nI (k + 2)))) := by
  refine gq_ofB (l := [(0, .ref (ge_ad X.1 76)), (1, .int 4), (2, .int a)]) (by decide) (Nat.le_of_ble_eq_true rfl) rfl ?_
  refine gq_iload_n (pc := 0) dX12_seesIn_0 rfl ?_
  refine gq_if_ne (pc := 1) 17 dX12_seesIn_1 (by decide) (fun h_1 => ?_) (fun h_1 => ?_)
  · refine gq_iload_n (pc := 17) dX12_seesIn_17 rfl ?_
    refine gq_iconst (pc := 18) dX12_seesIn_18 kc_1 ?_
    refine gq_ic_ne (pc := 19) 37 dX12_seesIn_19 (by decide) (fun h_19 => ?_) (fun h_19 => ?_)
    · refine gq_aload_n (pc := 37) dX12_seesIn_37 rfl ?_
      refine gq_iload_n (pc := 38) dX12_seesIn_38 rfl ?_
      refine gq_rS1i (pc := 39) dX12_seesIn_39 cs_X12_93 (k_above _) ⟨by decide, by decide⟩ (Nat.le_of_ble_eq_true rfl) ?_
      refine gq_tov (v := 1) (by decide) ?_
      refine gq_iload_n (pc := 42) dX12_seesIn_42 rfl ?_
      refine gq_rV2i (pc := 43) dX12_seesIn_43 cv_X12_234 sh_76 (m_sees_1 (k := k) (by omega) hN hM) ⟨by decide, by decide⟩ rfl rfl (Nat.le_of_ble_eq_true rfl) ?_
      exact gq_iret (pc := 46) rfl dX12_seesIn_46 ⟨rfl, rfl⟩
    · exact absurd h_19 (by decide)
  · exact absurd h_1 (by decide)
set_option maxHeartbeats 400000 in
theorem m_blinks_4 {n m a : Int32} {k : Nat} (hk2 : k + 1 ≤ 40) (hN : f 24 = n) (hM : f 25 = m) : ge_N X ge_SH YX12_blinksIn 4 [.ref (ge_ad X.1 76), .int 4, .int a] (ge_m g r (upd f 22 (nI k))) (some (.int (a - m))) (ge_m (p_addm g k [12]) r (upd f 22 (nI (k + 1)))) := by
  refine gq_ofB (l := [(0, .ref (ge_ad X.1 76)), (1, .int 4), (2, .int a)]) (by decide) (Nat.le_of_ble_eq_true rfl) rfl ?_
  refine gq_iload_n (pc := 0) dX12_blinksIn_0 rfl ?_
  refine gq_if_ne (pc := 1) 17 dX12_blinksIn_1 (by decide) (fun h_1 => ?_) (fun h_1 => ?_)
  · refine gq_iload_n (pc := 17) dX12_blinksIn_17 rfl ?_
    refine gq_iconst (pc := 18) dX12_blinksIn_18 kc_3 ?_
    refine gq_ic_ne (pc := 19) 36 dX12_blinksIn_19 (by decide) (fun h_19 => ?_) (fun h_19 => ?_)
    · refine gq_iload_n (pc := 36) dX12_blinksIn_36 rfl ?_
      refine gq_bipush (pc := 37) dX12_blinksIn_37 kb_6 ?_
      refine gq_ic_ne (pc := 39) 60 dX12_blinksIn_39 (by decide) (fun h_39 => ?_) (fun h_39 => ?_)
      · refine gq_aload_n (pc := 60) dX12_blinksIn_60 rfl ?_
        refine gq_iload_n (pc := 61) dX12_blinksIn_61 rfl ?_
        refine gq_rS1i (pc := 62) dX12_blinksIn_62 cs_X12_93 (k_above _) ⟨by decide, by decide⟩ (Nat.le_of_ble_eq_true rfl) ?_
        refine gq_tov (v := 1) (by decide) ?_
        refine gq_iload_n (pc := 65) dX12_blinksIn_65 rfl ?_
        refine gq_rV2i (pc := 66) dX12_blinksIn_66 cv_X12_240 sh_76 (m_blinks_1 (k := k) (by omega) hN hM) ⟨by decide, by decide⟩ rfl rfl (Nat.le_of_ble_eq_true rfl) ?_
        exact gq_iret (pc := 69) rfl dX12_blinksIn_69 ⟨rfl, rfl⟩
      · exact absurd h_39 (by decide)
    · exact absurd h_19 (by decide)
  · exact absurd h_1 (by decide)
set_option maxHeartbeats 400000 in
theorem m_looks_0_4 {n m a : Int32} {k : Nat} (hk2 : k + 3 ≤ 40) (hN : f 24 = n) (hM : f 25 = m) (hV : f 23 = 4) : ge_N X ge_SH YX12_looksIn 5 [.ref (ge_ad X.1 76), .int 0, .int a] (ge_m g r (upd f 22 (nI k))) (some (.int (((a + n) * 3) * 2))) (ge_m (p_addm g k [11, 20, 10]) r (upd f 22 (nI (k + 3)))) := by
  refine gq_ofB (l := [(0, .ref (ge_ad X.1 76)), (1, .int 0), (2, .int a)]) (by decide) (Nat.le_of_ble_eq_true rfl) rfl ?_
  refine gq_iload_n (pc := 0) dX12_looksIn_0 rfl ?_
  refine gq_if_ne (pc := 1) 22 dX12_looksIn_1 (by decide) (fun h_1 => ?_) (fun h_1 => ?_)
  · exact absurd h_1 (by decide)
  · refine gq_aload_n (pc := 4) dX12_looksIn_4 rfl ?_
    refine gq_bipush (pc := 5) dX12_looksIn_5 kb_11 ?_
    refine gq_rV1v (pc := 7) dX12_looksIn_7 cv_X12_228 sh_76 (m_ran (by omega)) ⟨by decide, by decide⟩ rfl rfl (Nat.le_of_ble_eq_true rfl) ?_
    refine gq_aload_n (pc := 10) dX12_looksIn_10 rfl ?_
    refine gq_aload_n (pc := 11) dX12_looksIn_11 rfl ?_
    refine qw_get (v := 4) (pc := 12) dX12_looksIn_12 fl_X12_243_12 sh_76 rfl hV (by decide) ?_
    refine gq_iload_n (pc := 15) dX12_looksIn_15 rfl ?_
    refine gq_rV2i (pc := 16) dX12_looksIn_16 cv_X12_234 sh_76 (m_sees_4 (g := p_addm g k [11]) (k := k + 1) (by omega) hN hM) ⟨by decide, by decide⟩ rfl rfl (Nat.le_of_ble_eq_true rfl) ?_
    refine gq_tog (g := ge_m (p_addm g k [11, 20, 10]) r (upd f 22 (nI (k + 3)))) (congrArg (fun q => ge_m q r (upd f 22 (nI (k + 3)))) (p_addm_app g k [11] [20, 10]).symm) ?_
    refine gq_iconst (pc := 19) dX12_looksIn_19 kc_2 ?_
    refine gq_imul (pc := 20) dX12_looksIn_20 ?_
    exact gq_iret (pc := 21) rfl dX12_looksIn_21 ⟨rfl, rfl⟩
set_option maxHeartbeats 400000 in
theorem m_looks_1_4 {n m a : Int32} {k : Nat} (hk2 : k + 3 ≤ 40) (hN : f 24 = n) (hM : f 25 = m) (hV : f 23 = 4) : ge_N X ge_SH YX12_looksIn 6 [.ref (ge_ad X.1 76), .int 1, .int a] (ge_m g r (upd f 22 (nI k))) (some (.int (((a + n) * 3) * 2))) (ge_m (p_addm g k [11, 20, 10]) r (upd f 22 (nI (k + 3)))) := by
  refine gq_ofB (l := [(0, .ref (ge_ad X.1 76)), (1, .int 1), (2, .int a)]) (by decide) (Nat.le_of_ble_eq_true rfl) rfl ?_
  refine gq_iload_n (pc := 0) dX12_looksIn_0 rfl ?_
  refine gq_if_ne (pc := 1) 22 dX12_looksIn_1 (by decide) (fun h_1 => ?_) (fun h_1 => ?_)
  · refine gq_iload_n (pc := 22) dX12_looksIn_22 rfl ?_
    refine gq_iconst (pc := 23) dX12_looksIn_23 kc_2 ?_
    refine gq_ic_ne (pc := 24) 52 dX12_looksIn_24 (by decide) (fun h_24 => ?_) (fun h_24 => ?_)
    · refine gq_iload_n (pc := 52) dX12_looksIn_52 rfl ?_
      refine gq_iconst (pc := 53) dX12_looksIn_53 kc_5 ?_
      refine gq_ic_ne (pc := 54) 72 dX12_looksIn_54 (by decide) (fun h_54 => ?_) (fun h_54 => ?_)
      · refine gq_aload_n (pc := 72) dX12_looksIn_72 rfl ?_
        refine gq_iload_n (pc := 73) dX12_looksIn_73 rfl ?_
        refine gq_rS1i (pc := 74) dX12_looksIn_74 cs_X12_93 (k_above _) ⟨by decide, by decide⟩ (Nat.le_of_ble_eq_true rfl) ?_
        refine gq_tov (v := 0) (by decide) ?_
        refine gq_iload_n (pc := 77) dX12_looksIn_77 rfl ?_
        refine gq_rV2i (pc := 78) dX12_looksIn_78 cv_X12_246 sh_76 (m_looks_0_4 (k := k) (by omega) hN hM hV) ⟨by decide, by decide⟩ rfl rfl (Nat.le_of_ble_eq_true rfl) ?_
        exact gq_iret (pc := 81) rfl dX12_looksIn_81 ⟨rfl, rfl⟩
      · exact absurd h_54 (by decide)
    · exact absurd h_24 (by decide)
  · exact absurd h_1 (by decide)
set_option maxHeartbeats 400000 in
theorem m_looks_4_4 {n m a : Int32} {k : Nat} (hk2 : k + 3 ≤ 40) (hN : f 24 = n) (hM : f 25 = m) (hV : f 23 = 4) : ge_N X ge_SH YX12_looksIn 7 [.ref (ge_ad X.1 76), .int 4, .int a] (ge_m g r (upd f 22 (nI k))) (some (.int (((a + n) * 3) * 2))) (ge_m (p_addm g k [11, 20, 10]) r (upd f 22 (nI (k + 3)))) := by
  refine gq_ofB (l := [(0, .ref (ge_ad X.1 76)), (1, .int 4), (2, .int a)]) (by decide) (Nat.le_of_ble_eq_true rfl) rfl ?_
  refine gq_iload_n (pc := 0) dX12_looksIn_0 rfl ?_
  refine gq_if_ne (pc := 1) 22 dX12_looksIn_1 (by decide) (fun h_1 => ?_) (fun h_1 => ?_)
  · refine gq_iload_n (pc := 22) dX12_looksIn_22 rfl ?_
    refine gq_iconst (pc := 23) dX12_looksIn_23 kc_2 ?_
    refine gq_ic_ne (pc := 24) 52 dX12_looksIn_24 (by decide) (fun h_24 => ?_) (fun h_24 => ?_)
    · refine gq_iload_n (pc := 52) dX12_looksIn_52 rfl ?_
      refine gq_iconst (pc := 53) dX12_looksIn_53 kc_5 ?_
      refine gq_ic_ne (pc := 54) 72 dX12_looksIn_54 (by decide) (fun h_54 => ?_) (fun h_54 => ?_)
      · refine gq_aload_n (pc := 72) dX12_looksIn_72 rfl ?_
        refine gq_iload_n (pc := 73) dX12_looksIn_73 rfl ?_
        refine gq_rS1i (pc := 74) dX12_looksIn_74 cs_X12_93 (k_above _) ⟨by decide, by decide⟩ (Nat.le_of_ble_eq_true rfl) ?_
        refine gq_tov (v := 1) (by decide) ?_
        refine gq_iload_n (pc := 77) dX12_looksIn_77 rfl ?_
        refine gq_rV2i (pc := 78) dX12_looksIn_78 cv_X12_246 sh_76 (m_looks_1_4 (k := k) (by omega) hN hM hV) ⟨by decide, by decide⟩ rfl rfl (Nat.le_of_ble_eq_true rfl) ?_
        exact gq_iret (pc := 81) rfl dX12_looksIn_81 ⟨rfl, rfl⟩
      · exact absurd h_54 (by decide)
    · exact absurd h_24 (by decide)
  · exact absurd h_1 (by decide)
set_option maxHeartbeats 400000 in
theorem m_tells_0_4 {n m a : Int32} {k : Nat} (hk2 : k + 5 ≤ 40) (hN : f 24 = n) (hM : f 25 = m) (hV : f 23 = 4) : ge_N X ge_SH YX12_tellsIn 8 [.ref (ge_ad X.1 76), .int 0, .int a] (ge_m g r (upd f 22 (nI k))) (some (.int ((((a + n) * 3) * 2) ^^^ (a - m)))) (ge_m (p_addm g k [13, 11, 20, 10, 12]) r (upd f 22 (nI (k + 5)))) := by
  refine gq_ofB (l := [(0, .ref (ge_ad X.1 76)), (1, .int 0), (2, .int a)]) (by decide) (Nat.le_of_ble_eq_true rfl) rfl ?_
  refine gq_iload_n (pc := 0) dX12_tellsIn_0 rfl ?_
  refine gq_if_ne (pc := 1) 32 dX12_tellsIn_1 (by decide) (fun h_1 => ?_) (fun h_1 => ?_)
  · exact absurd h_1 (by decide)
  · refine gq_aload_n (pc := 4) dX12_tellsIn_4 rfl ?_
    refine gq_bipush (pc := 5) dX12_tellsIn_5 kb_13 ?_
    refine gq_rV1v (pc := 7) dX12_tellsIn_7 cv_X12_228 sh_76 (m_ran (by omega)) ⟨by decide, by decide⟩ rfl rfl (Nat.le_of_ble_eq_true rfl) ?_
    refine gq_aload_n (pc := 10) dX12_tellsIn_10 rfl ?_
    refine gq_aload_n (pc := 11) dX12_tellsIn_11 rfl ?_
    refine qw_get (v := 4) (pc := 12) dX12_tellsIn_12 fl_X12_243_12 sh_76 rfl hV (by decide) ?_
    refine gq_iload_n (pc := 15) dX12_tellsIn_15 rfl ?_
    refine gq_rV2i (pc := 16) dX12_tellsIn_16 cv_X12_246 sh_76 (m_looks_4_4 (g := p_addm g k [13]) (k := k + 1) (by omega) hN hM hV) ⟨by decide, by decide⟩ rfl rfl (Nat.le_of_ble_eq_true rfl) ?_
    refine gq_tog (g := ge_m (p_addm g k [13, 11, 20, 10]) r (upd f 22 (nI (k + 4)))) (congrArg (fun q => ge_m q r (upd f 22 (nI (k + 4)))) (p_addm_app g k [13] [11, 20, 10]).symm) ?_
    refine gq_istore_n (pc := 19) (l' := [(3, _), (0, _), (1, _), (2, _)]) dX12_tellsIn_19 (by decide) rfl ?_
    refine gq_iload_n (pc := 20) dX12_tellsIn_20 rfl ?_
    refine gq_aload_n (pc := 21) dX12_tellsIn_21 rfl ?_
    refine gq_aload_n (pc := 22) dX12_tellsIn_22 rfl ?_
    refine qw_get (v := 4) (pc := 23) dX12_tellsIn_23 fl_X12_243_12 sh_76 rfl hV (by decide) ?_
    refine gq_iload_n (pc := 26) dX12_tellsIn_26 rfl ?_
    refine gq_rV2i (pc := 27) dX12_tellsIn_27 cv_X12_240 sh_76 (m_blinks_4 (g := p_addm g k [13, 11, 20, 10]) (k := k + 4) (by omega) hN hM) ⟨by decide, by decide⟩ rfl rfl (Nat.le_of_ble_eq_true rfl) ?_
    refine gq_tog (g := ge_m (p_addm g k [13, 11, 20, 10, 12]) r (upd f 22 (nI (k + 5)))) (congrArg (fun q => ge_m q r (upd f 22 (nI (k + 5)))) (p_addm_app g k [13, 11, 20, 10] [12]).symm) ?_
    refine gq_ixor (pc := 30) dX12_tellsIn_30 ?_
    exact gq_iret (pc := 31) rfl dX12_tellsIn_31 ⟨rfl, rfl⟩
set_option maxHeartbeats 400000 in
theorem m_tells_1_4 {n m a : Int32} {k : Nat} (hk2 : k + 5 ≤ 40) (hN : f 24 = n) (hM : f 25 = m) (hV : f 23 = 4) : ge_N X ge_SH YX12_tellsIn 9 [.ref (ge_ad X.1 76), .int 1, .int a] (ge_m g r (upd f 22 (nI k))) (some (.int ((((a + n) * 3) * 2) ^^^ (a - m)))) (ge_m (p_addm g k [13, 11, 20, 10, 12]) r (upd f 22 (nI (k + 5)))) := by
  refine gq_ofB (l := [(0, .ref (ge_ad X.1 76)), (1, .int 1), (2, .int a)]) (by decide) (Nat.le_of_ble_eq_true rfl) rfl ?_
  refine gq_iload_n (pc := 0) dX12_tellsIn_0 rfl ?_
  refine gq_if_ne (pc := 1) 32 dX12_tellsIn_1 (by decide) (fun h_1 => ?_) (fun h_1 => ?_)
  · refine gq_iload_n (pc := 32) dX12_tellsIn_32 rfl ?_
    refine gq_iconst (pc := 33) dX12_tellsIn_33 kc_4 ?_
    refine gq_ic_ne (pc := 34) 62 dX12_tellsIn_34 (by decide) (fun h_34 => ?_) (fun h_34 => ?_)
    · refine gq_iload_n (pc := 62) dX12_tellsIn_62 rfl ?_
      refine gq_bipush (pc := 63) dX12_tellsIn_63 kb_6 ?_
      refine gq_ic_ne (pc := 65) 93 dX12_tellsIn_65 (by decide) (fun h_65 => ?_) (fun h_65 => ?_)
      · refine gq_aload_n (pc := 93) dX12_tellsIn_93 rfl ?_
        refine gq_iload_n (pc := 94) dX12_tellsIn_94 rfl ?_
        refine gq_rS1i (pc := 95) dX12_tellsIn_95 cs_X12_93 (k_above _) ⟨by decide, by decide⟩ (Nat.le_of_ble_eq_true rfl) ?_
        refine gq_tov (v := 0) (by decide) ?_
        refine gq_iload_n (pc := 98) dX12_tellsIn_98 rfl ?_
        refine gq_rV2i (pc := 99) dX12_tellsIn_99 cv_X12_249 sh_76 (m_tells_0_4 (k := k) (by omega) hN hM hV) ⟨by decide, by decide⟩ rfl rfl (Nat.le_of_ble_eq_true rfl) ?_
        exact gq_iret (pc := 102) rfl dX12_tellsIn_102 ⟨rfl, rfl⟩
      · exact absurd h_65 (by decide)
    · exact absurd h_34 (by decide)
  · exact absurd h_1 (by decide)
set_option maxHeartbeats 400000 in
theorem m_tells_4_4 {n m a : Int32} {k : Nat} (hk2 : k + 8 ≤ 40) (hN : f 24 = n) (hM : f 25 = m) (hV : f 23 = 4) : ge_N X ge_SH YX12_tellsIn 10 [.ref (ge_ad X.1 76), .int 4, .int a] (ge_m g r (upd f 22 (nI k))) (some (.int (((((a + n) * 3) * 2) ^^^ (a - m)) - ((2 + n) * 3)))) (ge_m (p_addm g k [50, 13, 11, 20, 10, 12, 20, 10]) r (upd f 22 (nI (k + 8)))) := by
  refine gq_ofB (l := [(0, .ref (ge_ad X.1 76)), (1, .int 4), (2, .int a)]) (by decide) (Nat.le_of_ble_eq_true rfl) rfl ?_
  refine gq_iload_n (pc := 0) dX12_tellsIn_0 rfl ?_
  refine gq_if_ne (pc := 1) 32 dX12_tellsIn_1 (by decide) (fun h_1 => ?_) (fun h_1 => ?_)
  · refine gq_iload_n (pc := 32) dX12_tellsIn_32 rfl ?_
    refine gq_iconst (pc := 33) dX12_tellsIn_33 kc_4 ?_
    refine gq_ic_ne (pc := 34) 62 dX12_tellsIn_34 (by decide) (fun h_34 => ?_) (fun h_34 => ?_)
    · exact absurd h_34 (by decide)
    · refine gq_aload_n (pc := 37) dX12_tellsIn_37 rfl ?_
      refine gq_bipush (pc := 38) dX12_tellsIn_38 kb_50 ?_
      refine gq_rV1v (pc := 40) dX12_tellsIn_40 cv_X12_228 sh_76 (m_ran (by omega)) ⟨by decide, by decide⟩ rfl rfl (Nat.le_of_ble_eq_true rfl) ?_
      refine gq_aload_n (pc := 43) dX12_tellsIn_43 rfl ?_
      refine gq_iconst (pc := 44) dX12_tellsIn_44 kc_1 ?_
      refine gq_iload_n (pc := 45) dX12_tellsIn_45 rfl ?_
      refine gq_rV2i (pc := 46) dX12_tellsIn_46 cv_X12_249 sh_76 (m_tells_1_4 (g := p_addm g k [50]) (k := k + 1) (by omega) hN hM hV) ⟨by decide, by decide⟩ rfl rfl (Nat.le_of_ble_eq_true rfl) ?_
      refine gq_tog (g := ge_m (p_addm g k [50, 13, 11, 20, 10, 12]) r (upd f 22 (nI (k + 6)))) (congrArg (fun q => ge_m q r (upd f 22 (nI (k + 6)))) (p_addm_app g k [50] [13, 11, 20, 10, 12]).symm) ?_
      refine gq_istore_n (pc := 49) (l' := [(3, _), (0, _), (1, _), (2, _)]) dX12_tellsIn_49 (by decide) rfl ?_
      refine gq_iload_n (pc := 50) dX12_tellsIn_50 rfl ?_
      refine gq_aload_n (pc := 51) dX12_tellsIn_51 rfl ?_
      refine gq_aload_n (pc := 52) dX12_tellsIn_52 rfl ?_
      refine qw_get (v := 4) (pc := 53) dX12_tellsIn_53 fl_X12_243_12 sh_76 rfl hV (by decide) ?_
      refine gq_iconst (pc := 56) dX12_tellsIn_56 kc_2 ?_
      refine gq_rV2i (pc := 57) dX12_tellsIn_57 cv_X12_234 sh_76 (m_sees_4 (g := p_addm g k [50, 13, 11, 20, 10, 12]) (k := k + 6) (by omega) hN hM) ⟨by decide, by decide⟩ rfl rfl (Nat.le_of_ble_eq_true rfl) ?_
      refine gq_tog (g := ge_m (p_addm g k [50, 13, 11, 20, 10, 12, 20, 10]) r (upd f 22 (nI (k + 8)))) (congrArg (fun q => ge_m q r (upd f 22 (nI (k + 8)))) (p_addm_app g k [50, 13, 11, 20, 10, 12] [20, 10]).symm) ?_
      refine gq_isub (pc := 60) dX12_tellsIn_60 ?_
      exact gq_iret (pc := 61) rfl dX12_tellsIn_61 ⟨rfl, rfl⟩
  · exact absurd h_1 (by decide)
set_option maxHeartbeats 400000 in
theorem m_sees_5 {n m a : Int32} {k : Nat} (hk2 : k + 1 ≤ 40) (hN : f 24 = n) (hM : f 25 = m) : ge_N X ge_SH YX12_seesIn 4 [.ref (ge_ad X.1 76), .int 5, .int a] (ge_m g r (upd f 22 (nI k))) (some (.int (a + n))) (ge_m (p_addm g k [10]) r (upd f 22 (nI (k + 1)))) := by
  refine gq_ofB (l := [(0, .ref (ge_ad X.1 76)), (1, .int 5), (2, .int a)]) (by decide) (Nat.le_of_ble_eq_true rfl) rfl ?_
  refine gq_iload_n (pc := 0) dX12_seesIn_0 rfl ?_
  refine gq_if_ne (pc := 1) 17 dX12_seesIn_1 (by decide) (fun h_1 => ?_) (fun h_1 => ?_)
  · refine gq_iload_n (pc := 17) dX12_seesIn_17 rfl ?_
    refine gq_iconst (pc := 18) dX12_seesIn_18 kc_1 ?_
    refine gq_ic_ne (pc := 19) 37 dX12_seesIn_19 (by decide) (fun h_19 => ?_) (fun h_19 => ?_)
    · refine gq_aload_n (pc := 37) dX12_seesIn_37 rfl ?_
      refine gq_iload_n (pc := 38) dX12_seesIn_38 rfl ?_
      refine gq_rS1i (pc := 39) dX12_seesIn_39 cs_X12_93 (k_above _) ⟨by decide, by decide⟩ (Nat.le_of_ble_eq_true rfl) ?_
      refine gq_tov (v := 2) (by decide) ?_
      refine gq_iload_n (pc := 42) dX12_seesIn_42 rfl ?_
      refine gq_rV2i (pc := 43) dX12_seesIn_43 cv_X12_234 sh_76 (m_sees_2 (k := k) (by omega) hN hM) ⟨by decide, by decide⟩ rfl rfl (Nat.le_of_ble_eq_true rfl) ?_
      exact gq_iret (pc := 46) rfl dX12_seesIn_46 ⟨rfl, rfl⟩
    · exact absurd h_19 (by decide)
  · exact absurd h_1 (by decide)
set_option maxHeartbeats 400000 in
theorem m_blinks_5 {n m a : Int32} {k : Nat} (hk2 : k + 1 ≤ 40) (hN : f 24 = n) (hM : f 25 = m) : ge_N X ge_SH YX12_blinksIn 4 [.ref (ge_ad X.1 76), .int 5, .int a] (ge_m g r (upd f 22 (nI k))) (some (.int (a - m))) (ge_m (p_addm g k [12]) r (upd f 22 (nI (k + 1)))) := by
  refine gq_ofB (l := [(0, .ref (ge_ad X.1 76)), (1, .int 5), (2, .int a)]) (by decide) (Nat.le_of_ble_eq_true rfl) rfl ?_
  refine gq_iload_n (pc := 0) dX12_blinksIn_0 rfl ?_
  refine gq_if_ne (pc := 1) 17 dX12_blinksIn_1 (by decide) (fun h_1 => ?_) (fun h_1 => ?_)
  · refine gq_iload_n (pc := 17) dX12_blinksIn_17 rfl ?_
    refine gq_iconst (pc := 18) dX12_blinksIn_18 kc_3 ?_
    refine gq_ic_ne (pc := 19) 36 dX12_blinksIn_19 (by decide) (fun h_19 => ?_) (fun h_19 => ?_)
    · refine gq_iload_n (pc := 36) dX12_blinksIn_36 rfl ?_
      refine gq_bipush (pc := 37) dX12_blinksIn_37 kb_6 ?_
      refine gq_ic_ne (pc := 39) 60 dX12_blinksIn_39 (by decide) (fun h_39 => ?_) (fun h_39 => ?_)
      · refine gq_aload_n (pc := 60) dX12_blinksIn_60 rfl ?_
        refine gq_iload_n (pc := 61) dX12_blinksIn_61 rfl ?_
        refine gq_rS1i (pc := 62) dX12_blinksIn_62 cs_X12_93 (k_above _) ⟨by decide, by decide⟩ (Nat.le_of_ble_eq_true rfl) ?_
        refine gq_tov (v := 2) (by decide) ?_
        refine gq_iload_n (pc := 65) dX12_blinksIn_65 rfl ?_
        refine gq_rV2i (pc := 66) dX12_blinksIn_66 cv_X12_240 sh_76 (m_blinks_2 (k := k) (by omega) hN hM) ⟨by decide, by decide⟩ rfl rfl (Nat.le_of_ble_eq_true rfl) ?_
        exact gq_iret (pc := 69) rfl dX12_blinksIn_69 ⟨rfl, rfl⟩
      · exact absurd h_39 (by decide)
    · exact absurd h_19 (by decide)
  · exact absurd h_1 (by decide)
set_option maxHeartbeats 400000 in
theorem m_looks_0_5 {n m a : Int32} {k : Nat} (hk2 : k + 2 ≤ 40) (hN : f 24 = n) (hM : f 25 = m) (hV : f 23 = 5) : ge_N X ge_SH YX12_looksIn 5 [.ref (ge_ad X.1 76), .int 0, .int a] (ge_m g r (upd f 22 (nI k))) (some (.int ((a + n) * 2))) (ge_m (p_addm g k [11, 10]) r (upd f 22 (nI (k + 2)))) := by
  refine gq_ofB (l := [(0, .ref (ge_ad X.1 76)), (1, .int 0), (2, .int a)]) (by decide) (Nat.le_of_ble_eq_true rfl) rfl ?_
  refine gq_iload_n (pc := 0) dX12_looksIn_0 rfl ?_
  refine gq_if_ne (pc := 1) 22 dX12_looksIn_1 (by decide) (fun h_1 => ?_) (fun h_1 => ?_)
  · exact absurd h_1 (by decide)
  · refine gq_aload_n (pc := 4) dX12_looksIn_4 rfl ?_
    refine gq_bipush (pc := 5) dX12_looksIn_5 kb_11 ?_
    refine gq_rV1v (pc := 7) dX12_looksIn_7 cv_X12_228 sh_76 (m_ran (by omega)) ⟨by decide, by decide⟩ rfl rfl (Nat.le_of_ble_eq_true rfl) ?_
    refine gq_aload_n (pc := 10) dX12_looksIn_10 rfl ?_
    refine gq_aload_n (pc := 11) dX12_looksIn_11 rfl ?_
    refine qw_get (v := 5) (pc := 12) dX12_looksIn_12 fl_X12_243_12 sh_76 rfl hV (by decide) ?_
    refine gq_iload_n (pc := 15) dX12_looksIn_15 rfl ?_
    refine gq_rV2i (pc := 16) dX12_looksIn_16 cv_X12_234 sh_76 (m_sees_5 (g := p_addm g k [11]) (k := k + 1) (by omega) hN hM) ⟨by decide, by decide⟩ rfl rfl (Nat.le_of_ble_eq_true rfl) ?_
    refine gq_tog (g := ge_m (p_addm g k [11, 10]) r (upd f 22 (nI (k + 2)))) (congrArg (fun q => ge_m q r (upd f 22 (nI (k + 2)))) (p_addm_app g k [11] [10]).symm) ?_
    refine gq_iconst (pc := 19) dX12_looksIn_19 kc_2 ?_
    refine gq_imul (pc := 20) dX12_looksIn_20 ?_
    exact gq_iret (pc := 21) rfl dX12_looksIn_21 ⟨rfl, rfl⟩
set_option maxHeartbeats 400000 in
theorem m_looks_2_5 {n m a : Int32} {k : Nat} (hk2 : k + 4 ≤ 40) (hN : f 24 = n) (hM : f 25 = m) (hV : f 23 = 5) : ge_N X ge_SH YX12_looksIn 6 [.ref (ge_ad X.1 76), .int 2, .int a] (ge_m g r (upd f 22 (nI k))) (some (.int (((a + n) * 2) - (1 - m)))) (ge_m (p_addm g k [30, 11, 10, 12]) r (upd f 22 (nI (k + 4)))) := by
  refine gq_ofB (l := [(0, .ref (ge_ad X.1 76)), (1, .int 2), (2, .int a)]) (by decide) (Nat.le_of_ble_eq_true rfl) rfl ?_
  refine gq_iload_n (pc := 0) dX12_looksIn_0 rfl ?_
  refine gq_if_ne (pc := 1) 22 dX12_looksIn_1 (by decide) (fun h_1 => ?_) (fun h_1 => ?_)
  · refine gq_iload_n (pc := 22) dX12_looksIn_22 rfl ?_
    refine gq_iconst (pc := 23) dX12_looksIn_23 kc_2 ?_
    refine gq_ic_ne (pc := 24) 52 dX12_looksIn_24 (by decide) (fun h_24 => ?_) (fun h_24 => ?_)
    · exact absurd h_24 (by decide)
    · refine gq_aload_n (pc := 27) dX12_looksIn_27 rfl ?_
      refine gq_bipush (pc := 28) dX12_looksIn_28 kb_30 ?_
      refine gq_rV1v (pc := 30) dX12_looksIn_30 cv_X12_228 sh_76 (m_ran (by omega)) ⟨by decide, by decide⟩ rfl rfl (Nat.le_of_ble_eq_true rfl) ?_
      refine gq_aload_n (pc := 33) dX12_looksIn_33 rfl ?_
      refine gq_iconst (pc := 34) dX12_looksIn_34 kc_0 ?_
      refine gq_iload_n (pc := 35) dX12_looksIn_35 rfl ?_
      refine gq_rV2i (pc := 36) dX12_looksIn_36 cv_X12_246 sh_76 (m_looks_0_5 (g := p_addm g k [30]) (k := k + 1) (by omega) hN hM hV) ⟨by decide, by decide⟩ rfl rfl (Nat.le_of_ble_eq_true rfl) ?_
      refine gq_tog (g := ge_m (p_addm g k [30, 11, 10]) r (upd f 22 (nI (k + 3)))) (congrArg (fun q => ge_m q r (upd f 22 (nI (k + 3)))) (p_addm_app g k [30] [11, 10]).symm) ?_
      refine gq_istore_n (pc := 39) (l' := [(3, _), (0, _), (1, _), (2, _)]) dX12_looksIn_39 (by decide) rfl ?_
      refine gq_iload_n (pc := 40) dX12_looksIn_40 rfl ?_
      refine gq_aload_n (pc := 41) dX12_looksIn_41 rfl ?_
      refine gq_aload_n (pc := 42) dX12_looksIn_42 rfl ?_
      refine qw_get (v := 5) (pc := 43) dX12_looksIn_43 fl_X12_243_12 sh_76 rfl hV (by decide) ?_
      refine gq_iconst (pc := 46) dX12_looksIn_46 kc_1 ?_
      refine gq_rV2i (pc := 47) dX12_looksIn_47 cv_X12_240 sh_76 (m_blinks_5 (g := p_addm g k [30, 11, 10]) (k := k + 3) (by omega) hN hM) ⟨by decide, by decide⟩ rfl rfl (Nat.le_of_ble_eq_true rfl) ?_
      refine gq_tog (g := ge_m (p_addm g k [30, 11, 10, 12]) r (upd f 22 (nI (k + 4)))) (congrArg (fun q => ge_m q r (upd f 22 (nI (k + 4)))) (p_addm_app g k [30, 11, 10] [12]).symm) ?_
      refine gq_isub (pc := 50) dX12_looksIn_50 ?_
      exact gq_iret (pc := 51) rfl dX12_looksIn_51 ⟨rfl, rfl⟩
  · exact absurd h_1 (by decide)
set_option maxHeartbeats 400000 in
theorem m_looks_5_5 {n m a : Int32} {k : Nat} (hk2 : k + 5 ≤ 40) (hN : f 24 = n) (hM : f 25 = m) (hV : f 23 = 5) : ge_N X ge_SH YX12_looksIn 7 [.ref (ge_ad X.1 76), .int 5, .int a] (ge_m g r (upd f 22 (nI k))) (some (.int ((((a + 1) + n) * 2) - (1 - m)))) (ge_m (p_addm g k [60, 30, 11, 10, 12]) r (upd f 22 (nI (k + 5)))) := by
  refine gq_ofB (l := [(0, .ref (ge_ad X.1 76)), (1, .int 5), (2, .int a)]) (by decide) (Nat.le_of_ble_eq_true rfl) rfl ?_
  refine gq_iload_n (pc := 0) dX12_looksIn_0 rfl ?_
  refine gq_if_ne (pc := 1) 22 dX12_looksIn_1 (by decide) (fun h_1 => ?_) (fun h_1 => ?_)
  · refine gq_iload_n (pc := 22) dX12_looksIn_22 rfl ?_
    refine gq_iconst (pc := 23) dX12_looksIn_23 kc_2 ?_
    refine gq_ic_ne (pc := 24) 52 dX12_looksIn_24 (by decide) (fun h_24 => ?_) (fun h_24 => ?_)
    · refine gq_iload_n (pc := 52) dX12_looksIn_52 rfl ?_
      refine gq_iconst (pc := 53) dX12_looksIn_53 kc_5 ?_
      refine gq_ic_ne (pc := 54) 72 dX12_looksIn_54 (by decide) (fun h_54 => ?_) (fun h_54 => ?_)
      · exact absurd h_54 (by decide)
      · refine gq_aload_n (pc := 57) dX12_looksIn_57 rfl ?_
        refine gq_bipush (pc := 58) dX12_looksIn_58 kb_60 ?_
        refine gq_rV1v (pc := 60) dX12_looksIn_60 cv_X12_228 sh_76 (m_ran (by omega)) ⟨by decide, by decide⟩ rfl rfl (Nat.le_of_ble_eq_true rfl) ?_
        refine gq_aload_n (pc := 63) dX12_looksIn_63 rfl ?_
        refine gq_iconst (pc := 64) dX12_looksIn_64 kc_2 ?_
        refine gq_iload_n (pc := 65) dX12_looksIn_65 rfl ?_
        refine gq_iconst (pc := 66) dX12_looksIn_66 kc_1 ?_
        refine gq_iadd (pc := 67) dX12_looksIn_67 ?_
        refine gq_rV2i (pc := 68) dX12_looksIn_68 cv_X12_246 sh_76 (m_looks_2_5 (g := p_addm g k [60]) (k := k + 1) (by omega) hN hM hV) ⟨by decide, by decide⟩ rfl rfl (Nat.le_of_ble_eq_true rfl) ?_
        refine gq_tog (g := ge_m (p_addm g k [60, 30, 11, 10, 12]) r (upd f 22 (nI (k + 5)))) (congrArg (fun q => ge_m q r (upd f 22 (nI (k + 5)))) (p_addm_app g k [60] [30, 11, 10, 12]).symm) ?_
        exact gq_iret (pc := 71) rfl dX12_looksIn_71 ⟨rfl, rfl⟩
    · exact absurd h_24 (by decide)
  · exact absurd h_1 (by decide)
set_option maxHeartbeats 400000 in
theorem m_tells_0_5 {n m a : Int32} {k : Nat} (hk2 : k + 7 ≤ 40) (hN : f 24 = n) (hM : f 25 = m) (hV : f 23 = 5) : ge_N X ge_SH YX12_tellsIn 8 [.ref (ge_ad X.1 76), .int 0, .int a] (ge_m g r (upd f 22 (nI k))) (some (.int (((((a + 1) + n) * 2) - (1 - m)) ^^^ (a - m)))) (ge_m (p_addm g k [13, 60, 30, 11, 10, 12, 12]) r (upd f 22 (nI (k + 7)))) := by
  refine gq_ofB (l := [(0, .ref (ge_ad X.1 76)), (1, .int 0), (2, .int a)]) (by decide) (Nat.le_of_ble_eq_true rfl) rfl ?_
  refine gq_iload_n (pc := 0) dX12_tellsIn_0 rfl ?_
  refine gq_if_ne (pc := 1) 32 dX12_tellsIn_1 (by decide) (fun h_1 => ?_) (fun h_1 => ?_)
  · exact absurd h_1 (by decide)
  · refine gq_aload_n (pc := 4) dX12_tellsIn_4 rfl ?_
    refine gq_bipush (pc := 5) dX12_tellsIn_5 kb_13 ?_
    refine gq_rV1v (pc := 7) dX12_tellsIn_7 cv_X12_228 sh_76 (m_ran (by omega)) ⟨by decide, by decide⟩ rfl rfl (Nat.le_of_ble_eq_true rfl) ?_
    refine gq_aload_n (pc := 10) dX12_tellsIn_10 rfl ?_
    refine gq_aload_n (pc := 11) dX12_tellsIn_11 rfl ?_
    refine qw_get (v := 5) (pc := 12) dX12_tellsIn_12 fl_X12_243_12 sh_76 rfl hV (by decide) ?_
    refine gq_iload_n (pc := 15) dX12_tellsIn_15 rfl ?_
    refine gq_rV2i (pc := 16) dX12_tellsIn_16 cv_X12_246 sh_76 (m_looks_5_5 (g := p_addm g k [13]) (k := k + 1) (by omega) hN hM hV) ⟨by decide, by decide⟩ rfl rfl (Nat.le_of_ble_eq_true rfl) ?_
    refine gq_tog (g := ge_m (p_addm g k [13, 60, 30, 11, 10, 12]) r (upd f 22 (nI (k + 6)))) (congrArg (fun q => ge_m q r (upd f 22 (nI (k + 6)))) (p_addm_app g k [13] [60, 30, 11, 10, 12]).symm) ?_
    refine gq_istore_n (pc := 19) (l' := [(3, _), (0, _), (1, _), (2, _)]) dX12_tellsIn_19 (by decide) rfl ?_
    refine gq_iload_n (pc := 20) dX12_tellsIn_20 rfl ?_
    refine gq_aload_n (pc := 21) dX12_tellsIn_21 rfl ?_
    refine gq_aload_n (pc := 22) dX12_tellsIn_22 rfl ?_
    refine qw_get (v := 5) (pc := 23) dX12_tellsIn_23 fl_X12_243_12 sh_76 rfl hV (by decide) ?_
    refine gq_iload_n (pc := 26) dX12_tellsIn_26 rfl ?_
    refine gq_rV2i (pc := 27) dX12_tellsIn_27 cv_X12_240 sh_76 (m_blinks_5 (g := p_addm g k [13, 60, 30, 11, 10, 12]) (k := k + 6) (by omega) hN hM) ⟨by decide, by decide⟩ rfl rfl (Nat.le_of_ble_eq_true rfl) ?_
    refine gq_tog (g := ge_m (p_addm g k [13, 60, 30, 11, 10, 12, 12]) r (upd f 22 (nI (k + 7)))) (congrArg (fun q => ge_m q r (upd f 22 (nI (k + 7)))) (p_addm_app g k [13, 60, 30, 11, 10, 12] [12]).symm) ?_
    refine gq_ixor (pc := 30) dX12_tellsIn_30 ?_
    exact gq_iret (pc := 31) rfl dX12_tellsIn_31 ⟨rfl, rfl⟩
set_option maxHeartbeats 400000 in
theorem m_tells_2_5 {n m a : Int32} {k : Nat} (hk2 : k + 7 ≤ 40) (hN : f 24 = n) (hM : f 25 = m) (hV : f 23 = 5) : ge_N X ge_SH YX12_tellsIn 9 [.ref (ge_ad X.1 76), .int 2, .int a] (ge_m g r (upd f 22 (nI k))) (some (.int (((((a + 1) + n) * 2) - (1 - m)) ^^^ (a - m)))) (ge_m (p_addm g k [13, 60, 30, 11, 10, 12, 12]) r (upd f 22 (nI (k + 7)))) := by
  refine gq_ofB (l := [(0, .ref (ge_ad X.1 76)), (1, .int 2), (2, .int a)]) (by decide) (Nat.le_of_ble_eq_true rfl) rfl ?_
  refine gq_iload_n (pc := 0) dX12_tellsIn_0 rfl ?_
  refine gq_if_ne (pc := 1) 32 dX12_tellsIn_1 (by decide) (fun h_1 => ?_) (fun h_1 => ?_)
  · refine gq_iload_n (pc := 32) dX12_tellsIn_32 rfl ?_
    refine gq_iconst (pc := 33) dX12_tellsIn_33 kc_4 ?_
    refine gq_ic_ne (pc := 34) 62 dX12_tellsIn_34 (by decide) (fun h_34 => ?_) (fun h_34 => ?_)
    · refine gq_iload_n (pc := 62) dX12_tellsIn_62 rfl ?_
      refine gq_bipush (pc := 63) dX12_tellsIn_63 kb_6 ?_
      refine gq_ic_ne (pc := 65) 93 dX12_tellsIn_65 (by decide) (fun h_65 => ?_) (fun h_65 => ?_)
      · refine gq_aload_n (pc := 93) dX12_tellsIn_93 rfl ?_
        refine gq_iload_n (pc := 94) dX12_tellsIn_94 rfl ?_
        refine gq_rS1i (pc := 95) dX12_tellsIn_95 cs_X12_93 (k_above _) ⟨by decide, by decide⟩ (Nat.le_of_ble_eq_true rfl) ?_
        refine gq_tov (v := 0) (by decide) ?_
        refine gq_iload_n (pc := 98) dX12_tellsIn_98 rfl ?_
        refine gq_rV2i (pc := 99) dX12_tellsIn_99 cv_X12_249 sh_76 (m_tells_0_5 (k := k) (by omega) hN hM hV) ⟨by decide, by decide⟩ rfl rfl (Nat.le_of_ble_eq_true rfl) ?_
        exact gq_iret (pc := 102) rfl dX12_tellsIn_102 ⟨rfl, rfl⟩
      · exact absurd h_65 (by decide)
    · exact absurd h_34 (by decide)
  · exact absurd h_1 (by decide)
set_option maxHeartbeats 400000 in
theorem m_tells_5_5 {n m a : Int32} {k : Nat} (hk2 : k + 7 ≤ 40) (hN : f 24 = n) (hM : f 25 = m) (hV : f 23 = 5) : ge_N X ge_SH YX12_tellsIn 10 [.ref (ge_ad X.1 76), .int 5, .int a] (ge_m g r (upd f 22 (nI k))) (some (.int (((((a + 1) + n) * 2) - (1 - m)) ^^^ (a - m)))) (ge_m (p_addm g k [13, 60, 30, 11, 10, 12, 12]) r (upd f 22 (nI (k + 7)))) := by
  refine gq_ofB (l := [(0, .ref (ge_ad X.1 76)), (1, .int 5), (2, .int a)]) (by decide) (Nat.le_of_ble_eq_true rfl) rfl ?_
  refine gq_iload_n (pc := 0) dX12_tellsIn_0 rfl ?_
  refine gq_if_ne (pc := 1) 32 dX12_tellsIn_1 (by decide) (fun h_1 => ?_) (fun h_1 => ?_)
  · refine gq_iload_n (pc := 32) dX12_tellsIn_32 rfl ?_
    refine gq_iconst (pc := 33) dX12_tellsIn_33 kc_4 ?_
    refine gq_ic_ne (pc := 34) 62 dX12_tellsIn_34 (by decide) (fun h_34 => ?_) (fun h_34 => ?_)
    · refine gq_iload_n (pc := 62) dX12_tellsIn_62 rfl ?_
      refine gq_bipush (pc := 63) dX12_tellsIn_63 kb_6 ?_
      refine gq_ic_ne (pc := 65) 93 dX12_tellsIn_65 (by decide) (fun h_65 => ?_) (fun h_65 => ?_)
      · refine gq_aload_n (pc := 93) dX12_tellsIn_93 rfl ?_
        refine gq_iload_n (pc := 94) dX12_tellsIn_94 rfl ?_
        refine gq_rS1i (pc := 95) dX12_tellsIn_95 cs_X12_93 (k_above _) ⟨by decide, by decide⟩ (Nat.le_of_ble_eq_true rfl) ?_
        refine gq_tov (v := 2) (by decide) ?_
        refine gq_iload_n (pc := 98) dX12_tellsIn_98 rfl ?_
        refine gq_rV2i (pc := 99) dX12_tellsIn_99 cv_X12_249 sh_76 (m_tells_2_5 (k := k) (by omega) hN hM hV) ⟨by decide, by decide⟩ rfl rfl (Nat.le_of_ble_eq_true rfl) ?_
        exact gq_iret (pc := 102) rfl dX12_tellsIn_102 ⟨rfl, rfl⟩
      · exact absurd h_65 (by decide)
    · exact absurd h_34 (by decide)
  · exact absurd h_1 (by decide)
set_option maxHeartbeats 400000 in
theorem m_sees_6 {n m a : Int32} {k : Nat} (hk2 : k + 1 ≤ 40) (hN : f 24 = n) (hM : f 25 = m) : ge_N X ge_SH YX12_seesIn 4 [.ref (ge_ad X.1 76), .int 6, .int a] (ge_m g r (upd f 22 (nI k))) (some (.int (a + n))) (ge_m (p_addm g k [10]) r (upd f 22 (nI (k + 1)))) := by
  refine gq_ofB (l := [(0, .ref (ge_ad X.1 76)), (1, .int 6), (2, .int a)]) (by decide) (Nat.le_of_ble_eq_true rfl) rfl ?_
  refine gq_iload_n (pc := 0) dX12_seesIn_0 rfl ?_
  refine gq_if_ne (pc := 1) 17 dX12_seesIn_1 (by decide) (fun h_1 => ?_) (fun h_1 => ?_)
  · refine gq_iload_n (pc := 17) dX12_seesIn_17 rfl ?_
    refine gq_iconst (pc := 18) dX12_seesIn_18 kc_1 ?_
    refine gq_ic_ne (pc := 19) 37 dX12_seesIn_19 (by decide) (fun h_19 => ?_) (fun h_19 => ?_)
    · refine gq_aload_n (pc := 37) dX12_seesIn_37 rfl ?_
      refine gq_iload_n (pc := 38) dX12_seesIn_38 rfl ?_
      refine gq_rS1i (pc := 39) dX12_seesIn_39 cs_X12_93 (k_above _) ⟨by decide, by decide⟩ (Nat.le_of_ble_eq_true rfl) ?_
      refine gq_tov (v := 3) (by decide) ?_
      refine gq_iload_n (pc := 42) dX12_seesIn_42 rfl ?_
      refine gq_rV2i (pc := 43) dX12_seesIn_43 cv_X12_234 sh_76 (m_sees_3 (k := k) (by omega) hN hM) ⟨by decide, by decide⟩ rfl rfl (Nat.le_of_ble_eq_true rfl) ?_
      exact gq_iret (pc := 46) rfl dX12_seesIn_46 ⟨rfl, rfl⟩
    · exact absurd h_19 (by decide)
  · exact absurd h_1 (by decide)
set_option maxHeartbeats 400000 in
theorem m_blinks_6 {n m a : Int32} {k : Nat} (hk2 : k + 3 ≤ 40) (hN : f 24 = n) (hM : f 25 = m) : ge_N X ge_SH YX12_blinksIn 4 [.ref (ge_ad X.1 76), .int 6, .int a] (ge_m g r (upd f 22 (nI k))) (some (.int ((-(a - m)) ^^^ n))) (ge_m (p_addm g k [70, 40, 12]) r (upd f 22 (nI (k + 3)))) := by
  refine gq_ofB (l := [(0, .ref (ge_ad X.1 76)), (1, .int 6), (2, .int a)]) (by decide) (Nat.le_of_ble_eq_true rfl) rfl ?_
  refine gq_iload_n (pc := 0) dX12_blinksIn_0 rfl ?_
  refine gq_if_ne (pc := 1) 17 dX12_blinksIn_1 (by decide) (fun h_1 => ?_) (fun h_1 => ?_)
  · refine gq_iload_n (pc := 17) dX12_blinksIn_17 rfl ?_
    refine gq_iconst (pc := 18) dX12_blinksIn_18 kc_3 ?_
    refine gq_ic_ne (pc := 19) 36 dX12_blinksIn_19 (by decide) (fun h_19 => ?_) (fun h_19 => ?_)
    · refine gq_iload_n (pc := 36) dX12_blinksIn_36 rfl ?_
      refine gq_bipush (pc := 37) dX12_blinksIn_37 kb_6 ?_
      refine gq_ic_ne (pc := 39) 60 dX12_blinksIn_39 (by decide) (fun h_39 => ?_) (fun h_39 => ?_)
      · exact absurd h_39 (by decide)
      · refine gq_aload_n (pc := 42) dX12_blinksIn_42 rfl ?_
        refine gq_bipush (pc := 43) dX12_blinksIn_43 kb_70 ?_
        refine gq_rV1v (pc := 45) dX12_blinksIn_45 cv_X12_228 sh_76 (m_ran (by omega)) ⟨by decide, by decide⟩ rfl rfl (Nat.le_of_ble_eq_true rfl) ?_
        refine gq_aload_n (pc := 48) dX12_blinksIn_48 rfl ?_
        refine gq_iconst (pc := 49) dX12_blinksIn_49 kc_3 ?_
        refine gq_iload_n (pc := 50) dX12_blinksIn_50 rfl ?_
        refine gq_rV2i (pc := 51) dX12_blinksIn_51 cv_X12_240 sh_76 (m_blinks_3 (g := p_addm g k [70]) (k := k + 1) (by omega) hN hM) ⟨by decide, by decide⟩ rfl rfl (Nat.le_of_ble_eq_true rfl) ?_
        refine gq_tog (g := ge_m (p_addm g k [70, 40, 12]) r (upd f 22 (nI (k + 3)))) (congrArg (fun q => ge_m q r (upd f 22 (nI (k + 3)))) (p_addm_app g k [70] [40, 12]).symm) ?_
        refine gq_aload_n (pc := 54) dX12_blinksIn_54 rfl ?_
        refine qw_get (v := n) (pc := 55) dX12_blinksIn_55 fl_X12_231_12 sh_76 rfl hN (by decide) ?_
        refine gq_ixor (pc := 58) dX12_blinksIn_58 ?_
        exact gq_iret (pc := 59) rfl dX12_blinksIn_59 ⟨rfl, rfl⟩
    · exact absurd h_19 (by decide)
  · exact absurd h_1 (by decide)
set_option maxHeartbeats 400000 in
theorem m_looks_0_6 {n m a : Int32} {k : Nat} (hk2 : k + 2 ≤ 40) (hN : f 24 = n) (hM : f 25 = m) (hV : f 23 = 6) : ge_N X ge_SH YX12_looksIn 5 [.ref (ge_ad X.1 76), .int 0, .int a] (ge_m g r (upd f 22 (nI k))) (some (.int ((a + n) * 2))) (ge_m (p_addm g k [11, 10]) r (upd f 22 (nI (k + 2)))) := by
  refine gq_ofB (l := [(0, .ref (ge_ad X.1 76)), (1, .int 0), (2, .int a)]) (by decide) (Nat.le_of_ble_eq_true rfl) rfl ?_
  refine gq_iload_n (pc := 0) dX12_looksIn_0 rfl ?_
  refine gq_if_ne (pc := 1) 22 dX12_looksIn_1 (by decide) (fun h_1 => ?_) (fun h_1 => ?_)
  · exact absurd h_1 (by decide)
  · refine gq_aload_n (pc := 4) dX12_looksIn_4 rfl ?_
    refine gq_bipush (pc := 5) dX12_looksIn_5 kb_11 ?_
    refine gq_rV1v (pc := 7) dX12_looksIn_7 cv_X12_228 sh_76 (m_ran (by omega)) ⟨by decide, by decide⟩ rfl rfl (Nat.le_of_ble_eq_true rfl) ?_
    refine gq_aload_n (pc := 10) dX12_looksIn_10 rfl ?_
    refine gq_aload_n (pc := 11) dX12_looksIn_11 rfl ?_
    refine qw_get (v := 6) (pc := 12) dX12_looksIn_12 fl_X12_243_12 sh_76 rfl hV (by decide) ?_
    refine gq_iload_n (pc := 15) dX12_looksIn_15 rfl ?_
    refine gq_rV2i (pc := 16) dX12_looksIn_16 cv_X12_234 sh_76 (m_sees_6 (g := p_addm g k [11]) (k := k + 1) (by omega) hN hM) ⟨by decide, by decide⟩ rfl rfl (Nat.le_of_ble_eq_true rfl) ?_
    refine gq_tog (g := ge_m (p_addm g k [11, 10]) r (upd f 22 (nI (k + 2)))) (congrArg (fun q => ge_m q r (upd f 22 (nI (k + 2)))) (p_addm_app g k [11] [10]).symm) ?_
    refine gq_iconst (pc := 19) dX12_looksIn_19 kc_2 ?_
    refine gq_imul (pc := 20) dX12_looksIn_20 ?_
    exact gq_iret (pc := 21) rfl dX12_looksIn_21 ⟨rfl, rfl⟩
set_option maxHeartbeats 400000 in
theorem m_looks_3_6 {n m a : Int32} {k : Nat} (hk2 : k + 2 ≤ 40) (hN : f 24 = n) (hM : f 25 = m) (hV : f 23 = 6) : ge_N X ge_SH YX12_looksIn 6 [.ref (ge_ad X.1 76), .int 3, .int a] (ge_m g r (upd f 22 (nI k))) (some (.int ((a + n) * 2))) (ge_m (p_addm g k [11, 10]) r (upd f 22 (nI (k + 2)))) := by
  refine gq_ofB (l := [(0, .ref (ge_ad X.1 76)), (1, .int 3), (2, .int a)]) (by decide) (Nat.le_of_ble_eq_true rfl) rfl ?_
  refine gq_iload_n (pc := 0) dX12_looksIn_0 rfl ?_
  refine gq_if_ne (pc := 1) 22 dX12_looksIn_1 (by decide) (fun h_1 => ?_) (fun h_1 => ?_)
  · refine gq_iload_n (pc := 22) dX12_looksIn_22 rfl ?_
    refine gq_iconst (pc := 23) dX12_looksIn_23 kc_2 ?_
    refine gq_ic_ne (pc := 24) 52 dX12_looksIn_24 (by decide) (fun h_24 => ?_) (fun h_24 => ?_)
    · refine gq_iload_n (pc := 52) dX12_looksIn_52 rfl ?_
      refine gq_iconst (pc := 53) dX12_looksIn_53 kc_5 ?_
      refine gq_ic_ne (pc := 54) 72 dX12_looksIn_54 (by decide) (fun h_54 => ?_) (fun h_54 => ?_)
      · refine gq_aload_n (pc := 72) dX12_looksIn_72 rfl ?_
        refine gq_iload_n (pc := 73) dX12_looksIn_73 rfl ?_
        refine gq_rS1i (pc := 74) dX12_looksIn_74 cs_X12_93 (k_above _) ⟨by decide, by decide⟩ (Nat.le_of_ble_eq_true rfl) ?_
        refine gq_tov (v := 0) (by decide) ?_
        refine gq_iload_n (pc := 77) dX12_looksIn_77 rfl ?_
        refine gq_rV2i (pc := 78) dX12_looksIn_78 cv_X12_246 sh_76 (m_looks_0_6 (k := k) (by omega) hN hM hV) ⟨by decide, by decide⟩ rfl rfl (Nat.le_of_ble_eq_true rfl) ?_
        exact gq_iret (pc := 81) rfl dX12_looksIn_81 ⟨rfl, rfl⟩
      · exact absurd h_54 (by decide)
    · exact absurd h_24 (by decide)
  · exact absurd h_1 (by decide)
set_option maxHeartbeats 400000 in
theorem m_looks_6_6 {n m a : Int32} {k : Nat} (hk2 : k + 2 ≤ 40) (hN : f 24 = n) (hM : f 25 = m) (hV : f 23 = 6) : ge_N X ge_SH YX12_looksIn 7 [.ref (ge_ad X.1 76), .int 6, .int a] (ge_m g r (upd f 22 (nI k))) (some (.int ((a + n) * 2))) (ge_m (p_addm g k [11, 10]) r (upd f 22 (nI (k + 2)))) := by
  refine gq_ofB (l := [(0, .ref (ge_ad X.1 76)), (1, .int 6), (2, .int a)]) (by decide) (Nat.le_of_ble_eq_true rfl) rfl ?_
  refine gq_iload_n (pc := 0) dX12_looksIn_0 rfl ?_
  refine gq_if_ne (pc := 1) 22 dX12_looksIn_1 (by decide) (fun h_1 => ?_) (fun h_1 => ?_)
  · refine gq_iload_n (pc := 22) dX12_looksIn_22 rfl ?_
    refine gq_iconst (pc := 23) dX12_looksIn_23 kc_2 ?_
    refine gq_ic_ne (pc := 24) 52 dX12_looksIn_24 (by decide) (fun h_24 => ?_) (fun h_24 => ?_)
    · refine gq_iload_n (pc := 52) dX12_looksIn_52 rfl ?_
      refine gq_iconst (pc := 53) dX12_looksIn_53 kc_5 ?_
      refine gq_ic_ne (pc := 54) 72 dX12_looksIn_54 (by decide) (fun h_54 => ?_) (fun h_54 => ?_)
      · refine gq_aload_n (pc := 72) dX12_looksIn_72 rfl ?_
        refine gq_iload_n (pc := 73) dX12_looksIn_73 rfl ?_
        refine gq_rS1i (pc := 74) dX12_looksIn_74 cs_X12_93 (k_above _) ⟨by decide, by decide⟩ (Nat.le_of_ble_eq_true rfl) ?_
        refine gq_tov (v := 3) (by decide) ?_
        refine gq_iload_n (pc := 77) dX12_looksIn_77 rfl ?_
        refine gq_rV2i (pc := 78) dX12_looksIn_78 cv_X12_246 sh_76 (m_looks_3_6 (k := k) (by omega) hN hM hV) ⟨by decide, by decide⟩ rfl rfl (Nat.le_of_ble_eq_true rfl) ?_
        exact gq_iret (pc := 81) rfl dX12_looksIn_81 ⟨rfl, rfl⟩
      · exact absurd h_54 (by decide)
    · exact absurd h_24 (by decide)
  · exact absurd h_1 (by decide)
set_option maxHeartbeats 400000 in
theorem m_tells_0_6 {n m a : Int32} {k : Nat} (hk2 : k + 6 ≤ 40) (hN : f 24 = n) (hM : f 25 = m) (hV : f 23 = 6) : ge_N X ge_SH YX12_tellsIn 8 [.ref (ge_ad X.1 76), .int 0, .int a] (ge_m g r (upd f 22 (nI k))) (some (.int (((a + n) * 2) ^^^ ((-(a - m)) ^^^ n)))) (ge_m (p_addm g k [13, 11, 10, 70, 40, 12]) r (upd f 22 (nI (k + 6)))) := by
  refine gq_ofB (l := [(0, .ref (ge_ad X.1 76)), (1, .int 0), (2, .int a)]) (by decide) (Nat.le_of_ble_eq_true rfl) rfl ?_
  refine gq_iload_n (pc := 0) dX12_tellsIn_0 rfl ?_
  refine gq_if_ne (pc := 1) 32 dX12_tellsIn_1 (by decide) (fun h_1 => ?_) (fun h_1 => ?_)
  · exact absurd h_1 (by decide)
  · refine gq_aload_n (pc := 4) dX12_tellsIn_4 rfl ?_
    refine gq_bipush (pc := 5) dX12_tellsIn_5 kb_13 ?_
    refine gq_rV1v (pc := 7) dX12_tellsIn_7 cv_X12_228 sh_76 (m_ran (by omega)) ⟨by decide, by decide⟩ rfl rfl (Nat.le_of_ble_eq_true rfl) ?_
    refine gq_aload_n (pc := 10) dX12_tellsIn_10 rfl ?_
    refine gq_aload_n (pc := 11) dX12_tellsIn_11 rfl ?_
    refine qw_get (v := 6) (pc := 12) dX12_tellsIn_12 fl_X12_243_12 sh_76 rfl hV (by decide) ?_
    refine gq_iload_n (pc := 15) dX12_tellsIn_15 rfl ?_
    refine gq_rV2i (pc := 16) dX12_tellsIn_16 cv_X12_246 sh_76 (m_looks_6_6 (g := p_addm g k [13]) (k := k + 1) (by omega) hN hM hV) ⟨by decide, by decide⟩ rfl rfl (Nat.le_of_ble_eq_true rfl) ?_
    refine gq_tog (g := ge_m (p_addm g k [13, 11, 10]) r (upd f 22 (nI (k + 3)))) (congrArg (fun q => ge_m q r (upd f 22 (nI (k + 3)))) (p_addm_app g k [13] [11, 10]).symm) ?_
    refine gq_istore_n (pc := 19) (l' := [(3, _), (0, _), (1, _), (2, _)]) dX12_tellsIn_19 (by decide) rfl ?_
    refine gq_iload_n (pc := 20) dX12_tellsIn_20 rfl ?_
    refine gq_aload_n (pc := 21) dX12_tellsIn_21 rfl ?_
    refine gq_aload_n (pc := 22) dX12_tellsIn_22 rfl ?_
    refine qw_get (v := 6) (pc := 23) dX12_tellsIn_23 fl_X12_243_12 sh_76 rfl hV (by decide) ?_
    refine gq_iload_n (pc := 26) dX12_tellsIn_26 rfl ?_
    refine gq_rV2i (pc := 27) dX12_tellsIn_27 cv_X12_240 sh_76 (m_blinks_6 (g := p_addm g k [13, 11, 10]) (k := k + 3) (by omega) hN hM) ⟨by decide, by decide⟩ rfl rfl (Nat.le_of_ble_eq_true rfl) ?_
    refine gq_tog (g := ge_m (p_addm g k [13, 11, 10, 70, 40, 12]) r (upd f 22 (nI (k + 6)))) (congrArg (fun q => ge_m q r (upd f 22 (nI (k + 6)))) (p_addm_app g k [13, 11, 10] [70, 40, 12]).symm) ?_
    refine gq_ixor (pc := 30) dX12_tellsIn_30 ?_
    exact gq_iret (pc := 31) rfl dX12_tellsIn_31 ⟨rfl, rfl⟩
set_option maxHeartbeats 400000 in
theorem m_tells_3_6 {n m a : Int32} {k : Nat} (hk2 : k + 6 ≤ 40) (hN : f 24 = n) (hM : f 25 = m) (hV : f 23 = 6) : ge_N X ge_SH YX12_tellsIn 9 [.ref (ge_ad X.1 76), .int 3, .int a] (ge_m g r (upd f 22 (nI k))) (some (.int (((a + n) * 2) ^^^ ((-(a - m)) ^^^ n)))) (ge_m (p_addm g k [13, 11, 10, 70, 40, 12]) r (upd f 22 (nI (k + 6)))) := by
  refine gq_ofB (l := [(0, .ref (ge_ad X.1 76)), (1, .int 3), (2, .int a)]) (by decide) (Nat.le_of_ble_eq_true rfl) rfl ?_
  refine gq_iload_n (pc := 0) dX12_tellsIn_0 rfl ?_
  refine gq_if_ne (pc := 1) 32 dX12_tellsIn_1 (by decide) (fun h_1 => ?_) (fun h_1 => ?_)
  · refine gq_iload_n (pc := 32) dX12_tellsIn_32 rfl ?_
    refine gq_iconst (pc := 33) dX12_tellsIn_33 kc_4 ?_
    refine gq_ic_ne (pc := 34) 62 dX12_tellsIn_34 (by decide) (fun h_34 => ?_) (fun h_34 => ?_)
    · refine gq_iload_n (pc := 62) dX12_tellsIn_62 rfl ?_
      refine gq_bipush (pc := 63) dX12_tellsIn_63 kb_6 ?_
      refine gq_ic_ne (pc := 65) 93 dX12_tellsIn_65 (by decide) (fun h_65 => ?_) (fun h_65 => ?_)
      · refine gq_aload_n (pc := 93) dX12_tellsIn_93 rfl ?_
        refine gq_iload_n (pc := 94) dX12_tellsIn_94 rfl ?_
        refine gq_rS1i (pc := 95) dX12_tellsIn_95 cs_X12_93 (k_above _) ⟨by decide, by decide⟩ (Nat.le_of_ble_eq_true rfl) ?_
        refine gq_tov (v := 0) (by decide) ?_
        refine gq_iload_n (pc := 98) dX12_tellsIn_98 rfl ?_
        refine gq_rV2i (pc := 99) dX12_tellsIn_99 cv_X12_249 sh_76 (m_tells_0_6 (k := k) (by omega) hN hM hV) ⟨by decide, by decide⟩ rfl rfl (Nat.le_of_ble_eq_true rfl) ?_
        exact gq_iret (pc := 102) rfl dX12_tellsIn_102 ⟨rfl, rfl⟩
      · exact absurd h_65 (by decide)
    · exact absurd h_34 (by decide)
  · exact absurd h_1 (by decide)
set_option maxHeartbeats 400000 in
theorem m_tells_6_6 {n m a : Int32} {k : Nat} (hk2 : k + 9 ≤ 40) (hN : f 24 = n) (hM : f 25 = m) (hV : f 23 = 6) : ge_N X ge_SH YX12_tellsIn 10 [.ref (ge_ad X.1 76), .int 6, .int a] (ge_m g r (upd f 22 (nI k))) (some (.int (((a + n) * 2) - (((a + n) * 2) ^^^ ((-(a - m)) ^^^ n))))) (ge_m (p_addm g k [71, 11, 10, 13, 11, 10, 70, 40, 12]) r (upd f 22 (nI (k + 9)))) := by
  refine gq_ofB (l := [(0, .ref (ge_ad X.1 76)), (1, .int 6), (2, .int a)]) (by decide) (Nat.le_of_ble_eq_true rfl) rfl ?_
  refine gq_iload_n (pc := 0) dX12_tellsIn_0 rfl ?_
  refine gq_if_ne (pc := 1) 32 dX12_tellsIn_1 (by decide) (fun h_1 => ?_) (fun h_1 => ?_)
  · refine gq_iload_n (pc := 32) dX12_tellsIn_32 rfl ?_
    refine gq_iconst (pc := 33) dX12_tellsIn_33 kc_4 ?_
    refine gq_ic_ne (pc := 34) 62 dX12_tellsIn_34 (by decide) (fun h_34 => ?_) (fun h_34 => ?_)
    · refine gq_iload_n (pc := 62) dX12_tellsIn_62 rfl ?_
      refine gq_bipush (pc := 63) dX12_tellsIn_63 kb_6 ?_
      refine gq_ic_ne (pc := 65) 93 dX12_tellsIn_65 (by decide) (fun h_65 => ?_) (fun h_65 => ?_)
      · exact absurd h_65 (by decide)
      · refine gq_aload_n (pc := 68) dX12_tellsIn_68 rfl ?_
        refine gq_bipush (pc := 69) dX12_tellsIn_69 kb_71 ?_
        refine gq_rV1v (pc := 71) dX12_tellsIn_71 cv_X12_228 sh_76 (m_ran (by omega)) ⟨by decide, by decide⟩ rfl rfl (Nat.le_of_ble_eq_true rfl) ?_
        refine gq_aload_n (pc := 74) dX12_tellsIn_74 rfl ?_
        refine gq_aload_n (pc := 75) dX12_tellsIn_75 rfl ?_
        refine qw_get (v := 6) (pc := 76) dX12_tellsIn_76 fl_X12_243_12 sh_76 rfl hV (by decide) ?_
        refine gq_iload_n (pc := 79) dX12_tellsIn_79 rfl ?_
        refine gq_rV2i (pc := 80) dX12_tellsIn_80 cv_X12_246 sh_76 (m_looks_6_6 (g := p_addm g k [71]) (k := k + 1) (by omega) hN hM hV) ⟨by decide, by decide⟩ rfl rfl (Nat.le_of_ble_eq_true rfl) ?_
        refine gq_tog (g := ge_m (p_addm g k [71, 11, 10]) r (upd f 22 (nI (k + 3)))) (congrArg (fun q => ge_m q r (upd f 22 (nI (k + 3)))) (p_addm_app g k [71] [11, 10]).symm) ?_
        refine gq_istore_n (pc := 83) (l' := [(3, _), (0, _), (1, _), (2, _)]) dX12_tellsIn_83 (by decide) rfl ?_
        refine gq_iload_n (pc := 84) dX12_tellsIn_84 rfl ?_
        refine gq_aload_n (pc := 85) dX12_tellsIn_85 rfl ?_
        refine gq_iconst (pc := 86) dX12_tellsIn_86 kc_3 ?_
        refine gq_iload_n (pc := 87) dX12_tellsIn_87 rfl ?_
        refine gq_rV2i (pc := 88) dX12_tellsIn_88 cv_X12_249 sh_76 (m_tells_3_6 (g := p_addm g k [71, 11, 10]) (k := k + 3) (by omega) hN hM hV) ⟨by decide, by decide⟩ rfl rfl (Nat.le_of_ble_eq_true rfl) ?_
        refine gq_tog (g := ge_m (p_addm g k [71, 11, 10, 13, 11, 10, 70, 40, 12]) r (upd f 22 (nI (k + 9)))) (congrArg (fun q => ge_m q r (upd f 22 (nI (k + 9)))) (p_addm_app g k [71, 11, 10] [13, 11, 10, 70, 40, 12]).symm) ?_
        refine gq_isub (pc := 91) dX12_tellsIn_91 ?_
        exact gq_iret (pc := 92) rfl dX12_tellsIn_92 ⟨rfl, rfl⟩
    · exact absurd h_34 (by decide)
  · exact absurd h_1 (by decide)
set_option maxHeartbeats 400000 in
theorem m_voice_0_0 {e v : Int32} {j : Nat} (he : e = nI j) (hj : j < E) (hE : E ≤ 8) (e2 : r 2 = nI E) (ek : p_e r j 0 = 0) : ge_N X ge_SH YX12_voice 4 [.ref (ge_ad X.1 76), .int e, .int 0, .int v] (ge_m g r f) (some (.int (v + e))) (ge_m (p_addm g 0 [10]) r (upd (upd (upd (upd f 23 0) 24 e) 25 (p_e r j 1)) 22 (nI (0 + 1)))) := by
  refine gq_ofB (l := [(0, .ref (ge_ad X.1 76)), (1, .int e), (2, .int 0), (3, .int v)]) (by decide) (Nat.le_of_ble_eq_true rfl) rfl ?_
  refine gq_aload_n (pc := 0) dX12_voice_0 rfl ?_
  refine gq_iload_n (pc := 1) dX12_voice_1 rfl ?_
  refine gq_rV1i (pc := 2) dX12_voice_2 cv_X12_66 sh_76 (k_isEye _) ⟨by decide, by decide⟩ rfl rfl (Nat.le_of_ble_eq_true rfl) ?_
  refine gq_if_eq (pc := 5) 17 dX12_voice_5 (by decide) (fun h_5 => ?_) (fun h_5 => ?_)
  · exact absurd h_5 (p_in_E he hj (by omega) e2)
  · refine gq_iload_n (pc := 8) dX12_voice_8 rfl ?_
    refine gq_iconst (pc := 9) dX12_voice_9 kc_0 ?_
    refine gq_iconst (pc := 10) dX12_voice_10 kc_3 ?_
    refine gq_rS3i (pc := 11) dX12_voice_11 cs_X12_41 (k_in _ _ _) ⟨by decide, by decide⟩ (Nat.le_of_ble_eq_true rfl) ?_
    refine gq_if_ne (pc := 14) 24 dX12_voice_14 (by decide) (fun h_14 => ?_) (fun h_14 => ?_)
    · refine gq_aload_n (pc := 24) dX12_voice_24 rfl ?_
      refine gq_iconst (pc := 25) dX12_voice_25 kc_0 ?_
      refine qm_puti (pc := 26) dX12_voice_26 fp_X12_225_12 sh_76 rfl ?_
      refine gq_aload_n (pc := 29) dX12_voice_29 rfl ?_
      refine gq_aload_n (pc := 30) dX12_voice_30 rfl ?_
      refine gq_iload_n (pc := 31) dX12_voice_31 rfl ?_
      refine gq_iconst (pc := 32) dX12_voice_32 kc_0 ?_
      refine gq_rV2i (pc := 33) dX12_voice_33 cv_X12_69 sh_76 (k_its he kl_0 (by omega)) ⟨by decide, by decide⟩ rfl rfl (Nat.le_of_ble_eq_true rfl) ?_
      rw [ek]
      refine qm_puti (pc := 36) dX12_voice_36 fp_X12_243_12 sh_76 rfl ?_
      refine gq_aload_n (pc := 39) dX12_voice_39 rfl ?_
      refine gq_iload_n (pc := 40) dX12_voice_40 rfl ?_
      refine qm_puti (pc := 41) dX12_voice_41 fp_X12_231_12 sh_76 rfl ?_
      refine gq_aload_n (pc := 44) dX12_voice_44 rfl ?_
      refine gq_aload_n (pc := 45) dX12_voice_45 rfl ?_
      refine gq_iload_n (pc := 46) dX12_voice_46 rfl ?_
      refine gq_iconst (pc := 47) dX12_voice_47 kc_1 ?_
      refine gq_rV2i (pc := 48) dX12_voice_48 cv_X12_69 sh_76 (k_its he kl_1 (by omega)) ⟨by decide, by decide⟩ rfl rfl (Nat.le_of_ble_eq_true rfl) ?_
      refine qm_puti (pc := 51) dX12_voice_51 fp_X12_237_12 sh_76 rfl ?_
      refine gq_tog (g := ge_m g r (upd (upd (upd (upd f 23 0) 24 e) 25 (p_e r j 1)) 22 (nI 0))) (by rw [p_uc (i := 22) (j := 23) (by decide), p_uc (i := 22) (j := 24) (by decide), p_uc (i := 22) (j := 25) (by decide)]; rfl) ?_
      refine gq_iload_n (pc := 54) dX12_voice_54 rfl ?_
      refine gq_tabI (pc := 55) (off := 25) 80 dX12_voice_55 (by decide) (by decide) (by decide) (by decide) ?_
      refine gq_aload_n (pc := 80) dX12_voice_80 rfl ?_
      refine gq_aload_n (pc := 81) dX12_voice_81 rfl ?_
      refine qw_get (v := 0) (pc := 82) dX12_voice_82 fl_X12_243_12 sh_76 rfl rfl (by decide) ?_
      refine gq_iload_n (pc := 85) dX12_voice_85 rfl ?_
      refine gq_rV2i (pc := 86) dX12_voice_86 cv_X12_234 sh_76 (m_sees_0 (f := (upd (upd (upd f 23 0) 24 e) 25 (p_e r j 1))) (k := 0) (by decide) rfl rfl) ⟨by decide, by decide⟩ rfl rfl (Nat.le_of_ble_eq_true rfl) ?_
      exact gq_iret (pc := 89) rfl dX12_voice_89 ⟨rfl, rfl⟩
    · exact absurd h_14 (show ¬ p_in 0 0 3 = 0 by decide)
set_option maxHeartbeats 400000 in
theorem m_voice_0_1 {e v : Int32} {j : Nat} (he : e = nI j) (hj : j < E) (hE : E ≤ 8) (e2 : r 2 = nI E) (ek : p_e r j 0 = 0) : ge_N X ge_SH YX12_voice 4 [.ref (ge_ad X.1 76), .int e, .int 1, .int v] (ge_m g r f) (some (.int ((v + e) * 2))) (ge_m (p_addm g 0 [11, 10]) r (upd (upd (upd (upd f 23 0) 24 e) 25 (p_e r j 1)) 22 (nI (0 + 2)))) := by
  refine gq_ofB (l := [(0, .ref (ge_ad X.1 76)), (1, .int e), (2, .int 1), (3, .int v)]) (by decide) (Nat.le_of_ble_eq_true rfl) rfl ?_
  refine gq_aload_n (pc := 0) dX12_voice_0 rfl ?_
  refine gq_iload_n (pc := 1) dX12_voice_1 rfl ?_
  refine gq_rV1i (pc := 2) dX12_voice_2 cv_X12_66 sh_76 (k_isEye _) ⟨by decide, by decide⟩ rfl rfl (Nat.le_of_ble_eq_true rfl) ?_
  refine gq_if_eq (pc := 5) 17 dX12_voice_5 (by decide) (fun h_5 => ?_) (fun h_5 => ?_)
  · exact absurd h_5 (p_in_E he hj (by omega) e2)
  · refine gq_iload_n (pc := 8) dX12_voice_8 rfl ?_
    refine gq_iconst (pc := 9) dX12_voice_9 kc_0 ?_
    refine gq_iconst (pc := 10) dX12_voice_10 kc_3 ?_
    refine gq_rS3i (pc := 11) dX12_voice_11 cs_X12_41 (k_in _ _ _) ⟨by decide, by decide⟩ (Nat.le_of_ble_eq_true rfl) ?_
    refine gq_if_ne (pc := 14) 24 dX12_voice_14 (by decide) (fun h_14 => ?_) (fun h_14 => ?_)
    · refine gq_aload_n (pc := 24) dX12_voice_24 rfl ?_
      refine gq_iconst (pc := 25) dX12_voice_25 kc_0 ?_
      refine qm_puti (pc := 26) dX12_voice_26 fp_X12_225_12 sh_76 rfl ?_
      refine gq_aload_n (pc := 29) dX12_voice_29 rfl ?_
      refine gq_aload_n (pc := 30) dX12_voice_30 rfl ?_
      refine gq_iload_n (pc := 31) dX12_voice_31 rfl ?_
      refine gq_iconst (pc := 32) dX12_voice_32 kc_0 ?_
      refine gq_rV2i (pc := 33) dX12_voice_33 cv_X12_69 sh_76 (k_its he kl_0 (by omega)) ⟨by decide, by decide⟩ rfl rfl (Nat.le_of_ble_eq_true rfl) ?_
      rw [ek]
      refine qm_puti (pc := 36) dX12_voice_36 fp_X12_243_12 sh_76 rfl ?_
      refine gq_aload_n (pc := 39) dX12_voice_39 rfl ?_
      refine gq_iload_n (pc := 40) dX12_voice_40 rfl ?_
      refine qm_puti (pc := 41) dX12_voice_41 fp_X12_231_12 sh_76 rfl ?_
      refine gq_aload_n (pc := 44) dX12_voice_44 rfl ?_
      refine gq_aload_n (pc := 45) dX12_voice_45 rfl ?_
      refine gq_iload_n (pc := 46) dX12_voice_46 rfl ?_
      refine gq_iconst (pc := 47) dX12_voice_47 kc_1 ?_
      refine gq_rV2i (pc := 48) dX12_voice_48 cv_X12_69 sh_76 (k_its he kl_1 (by omega)) ⟨by decide, by decide⟩ rfl rfl (Nat.le_of_ble_eq_true rfl) ?_
      refine qm_puti (pc := 51) dX12_voice_51 fp_X12_237_12 sh_76 rfl ?_
      refine gq_tog (g := ge_m g r (upd (upd (upd (upd f 23 0) 24 e) 25 (p_e r j 1)) 22 (nI 0))) (by rw [p_uc (i := 22) (j := 23) (by decide), p_uc (i := 22) (j := 24) (by decide), p_uc (i := 22) (j := 25) (by decide)]; rfl) ?_
      refine gq_iload_n (pc := 54) dX12_voice_54 rfl ?_
      refine gq_tabI (pc := 55) (off := 35) 90 dX12_voice_55 (by decide) (by decide) (by decide) (by decide) ?_
      refine gq_aload_n (pc := 90) dX12_voice_90 rfl ?_
      refine gq_aload_n (pc := 91) dX12_voice_91 rfl ?_
      refine qw_get (v := 0) (pc := 92) dX12_voice_92 fl_X12_243_12 sh_76 rfl rfl (by decide) ?_
      refine gq_iload_n (pc := 95) dX12_voice_95 rfl ?_
      refine gq_rV2i (pc := 96) dX12_voice_96 cv_X12_246 sh_76 (m_looks_0_0 (f := (upd (upd (upd f 23 0) 24 e) 25 (p_e r j 1))) (k := 0) (by decide) rfl rfl rfl) ⟨by decide, by decide⟩ rfl rfl (Nat.le_of_ble_eq_true rfl) ?_
      exact gq_iret (pc := 99) rfl dX12_voice_99 ⟨rfl, rfl⟩
    · exact absurd h_14 (show ¬ p_in 1 0 3 = 0 by decide)
set_option maxHeartbeats 400000 in
theorem m_voice_0_2 {e v : Int32} {j : Nat} (he : e = nI j) (hj : j < E) (hE : E ≤ 8) (e2 : r 2 = nI E) (ek : p_e r j 0 = 0) : ge_N X ge_SH YX12_voice 4 [.ref (ge_ad X.1 76), .int e, .int 2, .int v] (ge_m g r f) (some (.int (v - p_e r j 1))) (ge_m (p_addm g 0 [12]) r (upd (upd (upd (upd f 23 0) 24 e) 25 (p_e r j 1)) 22 (nI (0 + 1)))) := by
  refine gq_ofB (l := [(0, .ref (ge_ad X.1 76)), (1, .int e), (2, .int 2), (3, .int v)]) (by decide) (Nat.le_of_ble_eq_true rfl) rfl ?_
  refine gq_aload_n (pc := 0) dX12_voice_0 rfl ?_
  refine gq_iload_n (pc := 1) dX12_voice_1 rfl ?_
  refine gq_rV1i (pc := 2) dX12_voice_2 cv_X12_66 sh_76 (k_isEye _) ⟨by decide, by decide⟩ rfl rfl (Nat.le_of_ble_eq_true rfl) ?_
  refine gq_if_eq (pc := 5) 17 dX12_voice_5 (by decide) (fun h_5 => ?_) (fun h_5 => ?_)
  · exact absurd h_5 (p_in_E he hj (by omega) e2)
  · refine gq_iload_n (pc := 8) dX12_voice_8 rfl ?_
    refine gq_iconst (pc := 9) dX12_voice_9 kc_0 ?_
    refine gq_iconst (pc := 10) dX12_voice_10 kc_3 ?_
    refine gq_rS3i (pc := 11) dX12_voice_11 cs_X12_41 (k_in _ _ _) ⟨by decide, by decide⟩ (Nat.le_of_ble_eq_true rfl) ?_
    refine gq_if_ne (pc := 14) 24 dX12_voice_14 (by decide) (fun h_14 => ?_) (fun h_14 => ?_)
    · refine gq_aload_n (pc := 24) dX12_voice_24 rfl ?_
      refine gq_iconst (pc := 25) dX12_voice_25 kc_0 ?_
      refine qm_puti (pc := 26) dX12_voice_26 fp_X12_225_12 sh_76 rfl ?_
      refine gq_aload_n (pc := 29) dX12_voice_29 rfl ?_
      refine gq_aload_n (pc := 30) dX12_voice_30 rfl ?_
      refine gq_iload_n (pc := 31) dX12_voice_31 rfl ?_
      refine gq_iconst (pc := 32) dX12_voice_32 kc_0 ?_
      refine gq_rV2i (pc := 33) dX12_voice_33 cv_X12_69 sh_76 (k_its he kl_0 (by omega)) ⟨by decide, by decide⟩ rfl rfl (Nat.le_of_ble_eq_true rfl) ?_
      rw [ek]
      refine qm_puti (pc := 36) dX12_voice_36 fp_X12_243_12 sh_76 rfl ?_
      refine gq_aload_n (pc := 39) dX12_voice_39 rfl ?_
      refine gq_iload_n (pc := 40) dX12_voice_40 rfl ?_
      refine qm_puti (pc := 41) dX12_voice_41 fp_X12_231_12 sh_76 rfl ?_
      refine gq_aload_n (pc := 44) dX12_voice_44 rfl ?_
      refine gq_aload_n (pc := 45) dX12_voice_45 rfl ?_
      refine gq_iload_n (pc := 46) dX12_voice_46 rfl ?_
      refine gq_iconst (pc := 47) dX12_voice_47 kc_1 ?_
      refine gq_rV2i (pc := 48) dX12_voice_48 cv_X12_69 sh_76 (k_its he kl_1 (by omega)) ⟨by decide, by decide⟩ rfl rfl (Nat.le_of_ble_eq_true rfl) ?_
      refine qm_puti (pc := 51) dX12_voice_51 fp_X12_237_12 sh_76 rfl ?_
      refine gq_tog (g := ge_m g r (upd (upd (upd (upd f 23 0) 24 e) 25 (p_e r j 1)) 22 (nI 0))) (by rw [p_uc (i := 22) (j := 23) (by decide), p_uc (i := 22) (j := 24) (by decide), p_uc (i := 22) (j := 25) (by decide)]; rfl) ?_
      refine gq_iload_n (pc := 54) dX12_voice_54 rfl ?_
      refine gq_tabI (pc := 55) (off := 45) 100 dX12_voice_55 (by decide) (by decide) (by decide) (by decide) ?_
      refine gq_aload_n (pc := 100) dX12_voice_100 rfl ?_
      refine gq_aload_n (pc := 101) dX12_voice_101 rfl ?_
      refine qw_get (v := 0) (pc := 102) dX12_voice_102 fl_X12_243_12 sh_76 rfl rfl (by decide) ?_
      refine gq_iload_n (pc := 105) dX12_voice_105 rfl ?_
      refine gq_rV2i (pc := 106) dX12_voice_106 cv_X12_240 sh_76 (m_blinks_0 (f := (upd (upd (upd f 23 0) 24 e) 25 (p_e r j 1))) (k := 0) (by decide) rfl rfl) ⟨by decide, by decide⟩ rfl rfl (Nat.le_of_ble_eq_true rfl) ?_
      exact gq_iret (pc := 109) rfl dX12_voice_109 ⟨rfl, rfl⟩
    · exact absurd h_14 (show ¬ p_in 2 0 3 = 0 by decide)
set_option maxHeartbeats 400000 in
theorem m_voice_0_3 {e v : Int32} {j : Nat} (he : e = nI j) (hj : j < E) (hE : E ≤ 8) (e2 : r 2 = nI E) (ek : p_e r j 0 = 0) : ge_N X ge_SH YX12_voice 5 [.ref (ge_ad X.1 76), .int e, .int 3, .int v] (ge_m g r f) (some (.int (((v + e) * 2) ^^^ (v - p_e r j 1)))) (ge_m (p_addm g 0 [13, 11, 10, 12]) r (upd (upd (upd (upd f 23 0) 24 e) 25 (p_e r j 1)) 22 (nI (0 + 4)))) := by
  refine gq_ofB (l := [(0, .ref (ge_ad X.1 76)), (1, .int e), (2, .int 3), (3, .int v)]) (by decide) (Nat.le_of_ble_eq_true rfl) rfl ?_
  refine gq_aload_n (pc := 0) dX12_voice_0 rfl ?_
  refine gq_iload_n (pc := 1) dX12_voice_1 rfl ?_
  refine gq_rV1i (pc := 2) dX12_voice_2 cv_X12_66 sh_76 (k_isEye _) ⟨by decide, by decide⟩ rfl rfl (Nat.le_of_ble_eq_true rfl) ?_
  refine gq_if_eq (pc := 5) 17 dX12_voice_5 (by decide) (fun h_5 => ?_) (fun h_5 => ?_)
  · exact absurd h_5 (p_in_E he hj (by omega) e2)
  · refine gq_iload_n (pc := 8) dX12_voice_8 rfl ?_
    refine gq_iconst (pc := 9) dX12_voice_9 kc_0 ?_
    refine gq_iconst (pc := 10) dX12_voice_10 kc_3 ?_
    refine gq_rS3i (pc := 11) dX12_voice_11 cs_X12_41 (k_in _ _ _) ⟨by decide, by decide⟩ (Nat.le_of_ble_eq_true rfl) ?_
    refine gq_if_ne (pc := 14) 24 dX12_voice_14 (by decide) (fun h_14 => ?_) (fun h_14 => ?_)
    · refine gq_aload_n (pc := 24) dX12_voice_24 rfl ?_
      refine gq_iconst (pc := 25) dX12_voice_25 kc_0 ?_
      refine qm_puti (pc := 26) dX12_voice_26 fp_X12_225_12 sh_76 rfl ?_
      refine gq_aload_n (pc := 29) dX12_voice_29 rfl ?_
      refine gq_aload_n (pc := 30) dX12_voice_30 rfl ?_
      refine gq_iload_n (pc := 31) dX12_voice_31 rfl ?_
      refine gq_iconst (pc := 32) dX12_voice_32 kc_0 ?_
      refine gq_rV2i (pc := 33) dX12_voice_33 cv_X12_69 sh_76 (k_its he kl_0 (by omega)) ⟨by decide, by decide⟩ rfl rfl (Nat.le_of_ble_eq_true rfl) ?_
      rw [ek]
      refine qm_puti (pc := 36) dX12_voice_36 fp_X12_243_12 sh_76 rfl ?_
      refine gq_aload_n (pc := 39) dX12_voice_39 rfl ?_
      refine gq_iload_n (pc := 40) dX12_voice_40 rfl ?_
      refine qm_puti (pc := 41) dX12_voice_41 fp_X12_231_12 sh_76 rfl ?_
      refine gq_aload_n (pc := 44) dX12_voice_44 rfl ?_
      refine gq_aload_n (pc := 45) dX12_voice_45 rfl ?_
      refine gq_iload_n (pc := 46) dX12_voice_46 rfl ?_
      refine gq_iconst (pc := 47) dX12_voice_47 kc_1 ?_
      refine gq_rV2i (pc := 48) dX12_voice_48 cv_X12_69 sh_76 (k_its he kl_1 (by omega)) ⟨by decide, by decide⟩ rfl rfl (Nat.le_of_ble_eq_true rfl) ?_
      refine qm_puti (pc := 51) dX12_voice_51 fp_X12_237_12 sh_76 rfl ?_
      refine gq_tog (g := ge_m g r (upd (upd (upd (upd f 23 0) 24 e) 25 (p_e r j 1)) 22 (nI 0))) (by rw [p_uc (i := 22) (j := 23) (by decide), p_uc (i := 22) (j := 24) (by decide), p_uc (i := 22) (j := 25) (by decide)]; rfl) ?_
      refine gq_iload_n (pc := 54) dX12_voice_54 rfl ?_
      refine gq_tabO (pc := 55) 110 dX12_voice_55 (by decide) (by decide) ?_
      refine gq_aload_n (pc := 110) dX12_voice_110 rfl ?_
      refine gq_aload_n (pc := 111) dX12_voice_111 rfl ?_
      refine qw_get (v := 0) (pc := 112) dX12_voice_112 fl_X12_243_12 sh_76 rfl rfl (by decide) ?_
      refine gq_iload_n (pc := 115) dX12_voice_115 rfl ?_
      refine gq_rV2i (pc := 116) dX12_voice_116 cv_X12_249 sh_76 (m_tells_0_0 (f := (upd (upd (upd f 23 0) 24 e) 25 (p_e r j 1))) (k := 0) (by decide) rfl rfl rfl) ⟨by decide, by decide⟩ rfl rfl (Nat.le_of_ble_eq_true rfl) ?_
      exact gq_iret (pc := 119) rfl dX12_voice_119 ⟨rfl, rfl⟩
    · exact absurd h_14 (show ¬ p_in 3 0 3 = 0 by decide)
set_option maxHeartbeats 400000 in
theorem m_voice_1_0 {e v : Int32} {j : Nat} (he : e = nI j) (hj : j < E) (hE : E ≤ 8) (e2 : r 2 = nI E) (ek : p_e r j 0 = 1) : ge_N X ge_SH YX12_voice 4 [.ref (ge_ad X.1 76), .int e, .int 0, .int v] (ge_m g r f) (some (.int ((v + e) * 3))) (ge_m (p_addm g 0 [20, 10]) r (upd (upd (upd (upd f 23 1) 24 e) 25 (p_e r j 1)) 22 (nI (0 + 2)))) := by
  refine gq_ofB (l := [(0, .ref (ge_ad X.1 76)), (1, .int e), (2, .int 0), (3, .int v)]) (by decide) (Nat.le_of_ble_eq_true rfl) rfl ?_
  refine gq_aload_n (pc := 0) dX12_voice_0 rfl ?_
  refine gq_iload_n (pc := 1) dX12_voice_1 rfl ?_
  refine gq_rV1i (pc := 2) dX12_voice_2 cv_X12_66 sh_76 (k_isEye _) ⟨by decide, by decide⟩ rfl rfl (Nat.le_of_ble_eq_true rfl) ?_
  refine gq_if_eq (pc := 5) 17 dX12_voice_5 (by decide) (fun h_5 => ?_) (fun h_5 => ?_)
  · exact absurd h_5 (p_in_E he hj (by omega) e2)
  · refine gq_iload_n (pc := 8) dX12_voice_8 rfl ?_
    refine gq_iconst (pc := 9) dX12_voice_9 kc_0 ?_
    refine gq_iconst (pc := 10) dX12_voice_10 kc_3 ?_
    refine gq_rS3i (pc := 11) dX12_voice_11 cs_X12_41 (k_in _ _ _) ⟨by decide, by decide⟩ (Nat.le_of_ble_eq_true rfl) ?_
    refine gq_if_ne (pc := 14) 24 dX12_voice_14 (by decide) (fun h_14 => ?_) (fun h_14 => ?_)
    · refine gq_aload_n (pc := 24) dX12_voice_24 rfl ?_
      refine gq_iconst (pc := 25) dX12_voice_25 kc_0 ?_
      refine qm_puti (pc := 26) dX12_voice_26 fp_X12_225_12 sh_76 rfl ?_
      refine gq_aload_n (pc := 29) dX12_voice_29 rfl ?_
      refine gq_aload_n (pc := 30) dX12_voice_30 rfl ?_
      refine gq_iload_n (pc := 31) dX12_voice_31 rfl ?_
      refine gq_iconst (pc := 32) dX12_voice_32 kc_0 ?_
      refine gq_rV2i (pc := 33) dX12_voice_33 cv_X12_69 sh_76 (k_its he kl_0 (by omega)) ⟨by decide, by decide⟩ rfl rfl (Nat.le_of_ble_eq_true rfl) ?_
      rw [ek]
      refine qm_puti (pc := 36) dX12_voice_36 fp_X12_243_12 sh_76 rfl ?_
      refine gq_aload_n (pc := 39) dX12_voice_39 rfl ?_
      refine gq_iload_n (pc := 40) dX12_voice_40 rfl ?_
      refine qm_puti (pc := 41) dX12_voice_41 fp_X12_231_12 sh_76 rfl ?_
      refine gq_aload_n (pc := 44) dX12_voice_44 rfl ?_
      refine gq_aload_n (pc := 45) dX12_voice_45 rfl ?_
      refine gq_iload_n (pc := 46) dX12_voice_46 rfl ?_
      refine gq_iconst (pc := 47) dX12_voice_47 kc_1 ?_
      refine gq_rV2i (pc := 48) dX12_voice_48 cv_X12_69 sh_76 (k_its he kl_1 (by omega)) ⟨by decide, by decide⟩ rfl rfl (Nat.le_of_ble_eq_true rfl) ?_
      refine qm_puti (pc := 51) dX12_voice_51 fp_X12_237_12 sh_76 rfl ?_
      refine gq_tog (g := ge_m g r (upd (upd (upd (upd f 23 1) 24 e) 25 (p_e r j 1)) 22 (nI 0))) (by rw [p_uc (i := 22) (j := 23) (by decide), p_uc (i := 22) (j := 24) (by decide), p_uc (i := 22) (j := 25) (by decide)]; rfl) ?_
      refine gq_iload_n (pc := 54) dX12_voice_54 rfl ?_
      refine gq_tabI (pc := 55) (off := 25) 80 dX12_voice_55 (by decide) (by decide) (by decide) (by decide) ?_
      refine gq_aload_n (pc := 80) dX12_voice_80 rfl ?_
      refine gq_aload_n (pc := 81) dX12_voice_81 rfl ?_
      refine qw_get (v := 1) (pc := 82) dX12_voice_82 fl_X12_243_12 sh_76 rfl rfl (by decide) ?_
      refine gq_iload_n (pc := 85) dX12_voice_85 rfl ?_
      refine gq_rV2i (pc := 86) dX12_voice_86 cv_X12_234 sh_76 (m_sees_1 (f := (upd (upd (upd f 23 1) 24 e) 25 (p_e r j 1))) (k := 0) (by decide) rfl rfl) ⟨by decide, by decide⟩ rfl rfl (Nat.le_of_ble_eq_true rfl) ?_
      exact gq_iret (pc := 89) rfl dX12_voice_89 ⟨rfl, rfl⟩
    · exact absurd h_14 (show ¬ p_in 0 0 3 = 0 by decide)
set_option maxHeartbeats 400000 in
theorem m_voice_1_1 {e v : Int32} {j : Nat} (he : e = nI j) (hj : j < E) (hE : E ≤ 8) (e2 : r 2 = nI E) (ek : p_e r j 0 = 1) : ge_N X ge_SH YX12_voice 6 [.ref (ge_ad X.1 76), .int e, .int 1, .int v] (ge_m g r f) (some (.int (((v + e) * 3) * 2))) (ge_m (p_addm g 0 [11, 20, 10]) r (upd (upd (upd (upd f 23 1) 24 e) 25 (p_e r j 1)) 22 (nI (0 + 3)))) := by
  refine gq_ofB (l := [(0, .ref (ge_ad X.1 76)), (1, .int e), (2, .int 1), (3, .int v)]) (by decide) (Nat.le_of_ble_eq_true rfl) rfl ?_
  refine gq_aload_n (pc := 0) dX12_voice_0 rfl ?_
  refine gq_iload_n (pc := 1) dX12_voice_1 rfl ?_
  refine gq_rV1i (pc := 2) dX12_voice_2 cv_X12_66 sh_76 (k_isEye _) ⟨by decide, by decide⟩ rfl rfl (Nat.le_of_ble_eq_true rfl) ?_
  refine gq_if_eq (pc := 5) 17 dX12_voice_5 (by decide) (fun h_5 => ?_) (fun h_5 => ?_)
  · exact absurd h_5 (p_in_E he hj (by omega) e2)
  · refine gq_iload_n (pc := 8) dX12_voice_8 rfl ?_
    refine gq_iconst (pc := 9) dX12_voice_9 kc_0 ?_
    refine gq_iconst (pc := 10) dX12_voice_10 kc_3 ?_
    refine gq_rS3i (pc := 11) dX12_voice_11 cs_X12_41 (k_in _ _ _) ⟨by decide, by decide⟩ (Nat.le_of_ble_eq_true rfl) ?_
    refine gq_if_ne (pc := 14) 24 dX12_voice_14 (by decide) (fun h_14 => ?_) (fun h_14 => ?_)
    · refine gq_aload_n (pc := 24) dX12_voice_24 rfl ?_
      refine gq_iconst (pc := 25) dX12_voice_25 kc_0 ?_
      refine qm_puti (pc := 26) dX12_voice_26 fp_X12_225_12 sh_76 rfl ?_
      refine gq_aload_n (pc := 29) dX12_voice_29 rfl ?_
      refine gq_aload_n (pc := 30) dX12_voice_30 rfl ?_
      refine gq_iload_n (pc := 31) dX12_voice_31 rfl ?_
      refine gq_iconst (pc := 32) dX12_voice_32 kc_0 ?_
      refine gq_rV2i (pc := 33) dX12_voice_33 cv_X12_69 sh_76 (k_its he kl_0 (by omega)) ⟨by decide, by decide⟩ rfl rfl (Nat.le_of_ble_eq_true rfl) ?_
      rw [ek]
      refine qm_puti (pc := 36) dX12_voice_36 fp_X12_243_12 sh_76 rfl ?_
      refine gq_aload_n (pc := 39) dX12_voice_39 rfl ?_
      refine gq_iload_n (pc := 40) dX12_voice_40 rfl ?_
      refine qm_puti (pc := 41) dX12_voice_41 fp_X12_231_12 sh_76 rfl ?_
      refine gq_aload_n (pc := 44) dX12_voice_44 rfl ?_
      refine gq_aload_n (pc := 45) dX12_voice_45 rfl ?_
      refine gq_iload_n (pc := 46) dX12_voice_46 rfl ?_
      refine gq_iconst (pc := 47) dX12_voice_47 kc_1 ?_
      refine gq_rV2i (pc := 48) dX12_voice_48 cv_X12_69 sh_76 (k_its he kl_1 (by omega)) ⟨by decide, by decide⟩ rfl rfl (Nat.le_of_ble_eq_true rfl) ?_
      refine qm_puti (pc := 51) dX12_voice_51 fp_X12_237_12 sh_76 rfl ?_
      refine gq_tog (g := ge_m g r (upd (upd (upd (upd f 23 1) 24 e) 25 (p_e r j 1)) 22 (nI 0))) (by rw [p_uc (i := 22) (j := 23) (by decide), p_uc (i := 22) (j := 24) (by decide), p_uc (i := 22) (j := 25) (by decide)]; rfl) ?_
      refine gq_iload_n (pc := 54) dX12_voice_54 rfl ?_
      refine gq_tabI (pc := 55) (off := 35) 90 dX12_voice_55 (by decide) (by decide) (by decide) (by decide) ?_
      refine gq_aload_n (pc := 90) dX12_voice_90 rfl ?_
      refine gq_aload_n (pc := 91) dX12_voice_91 rfl ?_
      refine qw_get (v := 1) (pc := 92) dX12_voice_92 fl_X12_243_12 sh_76 rfl rfl (by decide) ?_
      refine gq_iload_n (pc := 95) dX12_voice_95 rfl ?_
      refine gq_rV2i (pc := 96) dX12_voice_96 cv_X12_246 sh_76 (m_looks_1_1 (f := (upd (upd (upd f 23 1) 24 e) 25 (p_e r j 1))) (k := 0) (by decide) rfl rfl rfl) ⟨by decide, by decide⟩ rfl rfl (Nat.le_of_ble_eq_true rfl) ?_
      exact gq_iret (pc := 99) rfl dX12_voice_99 ⟨rfl, rfl⟩
    · exact absurd h_14 (show ¬ p_in 1 0 3 = 0 by decide)
set_option maxHeartbeats 400000 in
theorem m_voice_1_2 {e v : Int32} {j : Nat} (he : e = nI j) (hj : j < E) (hE : E ≤ 8) (e2 : r 2 = nI E) (ek : p_e r j 0 = 1) : ge_N X ge_SH YX12_voice 4 [.ref (ge_ad X.1 76), .int e, .int 2, .int v] (ge_m g r f) (some (.int (v - p_e r j 1))) (ge_m (p_addm g 0 [12]) r (upd (upd (upd (upd f 23 1) 24 e) 25 (p_e r j 1)) 22 (nI (0 + 1)))) := by
  refine gq_ofB (l := [(0, .ref (ge_ad X.1 76)), (1, .int e), (2, .int 2), (3, .int v)]) (by decide) (Nat.le_of_ble_eq_true rfl) rfl ?_
  refine gq_aload_n (pc := 0) dX12_voice_0 rfl ?_
  refine gq_iload_n (pc := 1) dX12_voice_1 rfl ?_
  refine gq_rV1i (pc := 2) dX12_voice_2 cv_X12_66 sh_76 (k_isEye _) ⟨by decide, by decide⟩ rfl rfl (Nat.le_of_ble_eq_true rfl) ?_
  refine gq_if_eq (pc := 5) 17 dX12_voice_5 (by decide) (fun h_5 => ?_) (fun h_5 => ?_)
  · exact absurd h_5 (p_in_E he hj (by omega) e2)
  · refine gq_iload_n (pc := 8) dX12_voice_8 rfl ?_
    refine gq_iconst (pc := 9) dX12_voice_9 kc_0 ?_
    refine gq_iconst (pc := 10) dX12_voice_10 kc_3 ?_
    refine gq_rS3i (pc := 11) dX12_voice_11 cs_X12_41 (k_in _ _ _) ⟨by decide, by decide⟩ (Nat.le_of_ble_eq_true rfl) ?_
    refine gq_if_ne (pc := 14) 24 dX12_voice_14 (by decide) (fun h_14 => ?_) (fun h_14 => ?_)
    · refine gq_aload_n (pc := 24) dX12_voice_24 rfl ?_
      refine gq_iconst (pc := 25) dX12_voice_25 kc_0 ?_
      refine qm_puti (pc := 26) dX12_voice_26 fp_X12_225_12 sh_76 rfl ?_
      refine gq_aload_n (pc := 29) dX12_voice_29 rfl ?_
      refine gq_aload_n (pc := 30) dX12_voice_30 rfl ?_
      refine gq_iload_n (pc := 31) dX12_voice_31 rfl ?_
      refine gq_iconst (pc := 32) dX12_voice_32 kc_0 ?_
      refine gq_rV2i (pc := 33) dX12_voice_33 cv_X12_69 sh_76 (k_its he kl_0 (by omega)) ⟨by decide, by decide⟩ rfl rfl (Nat.le_of_ble_eq_true rfl) ?_
      rw [ek]
      refine qm_puti (pc := 36) dX12_voice_36 fp_X12_243_12 sh_76 rfl ?_
      refine gq_aload_n (pc := 39) dX12_voice_39 rfl ?_
      refine gq_iload_n (pc := 40) dX12_voice_40 rfl ?_
      refine qm_puti (pc := 41) dX12_voice_41 fp_X12_231_12 sh_76 rfl ?_
      refine gq_aload_n (pc := 44) dX12_voice_44 rfl ?_
      refine gq_aload_n (pc := 45) dX12_voice_45 rfl ?_
      refine gq_iload_n (pc := 46) dX12_voice_46 rfl ?_
      refine gq_iconst (pc := 47) dX12_voice_47 kc_1 ?_
      refine gq_rV2i (pc := 48) dX12_voice_48 cv_X12_69 sh_76 (k_its he kl_1 (by omega)) ⟨by decide, by decide⟩ rfl rfl (Nat.le_of_ble_eq_true rfl) ?_
      refine qm_puti (pc := 51) dX12_voice_51 fp_X12_237_12 sh_76 rfl ?_
      refine gq_tog (g := ge_m g r (upd (upd (upd (upd f 23 1) 24 e) 25 (p_e r j 1)) 22 (nI 0))) (by rw [p_uc (i := 22) (j := 23) (by decide), p_uc (i := 22) (j := 24) (by decide), p_uc (i := 22) (j := 25) (by decide)]; rfl) ?_
      refine gq_iload_n (pc := 54) dX12_voice_54 rfl ?_
      refine gq_tabI (pc := 55) (off := 45) 100 dX12_voice_55 (by decide) (by decide) (by decide) (by decide) ?_
      refine gq_aload_n (pc := 100) dX12_voice_100 rfl ?_
      refine gq_aload_n (pc := 101) dX12_voice_101 rfl ?_
      refine qw_get (v := 1) (pc := 102) dX12_voice_102 fl_X12_243_12 sh_76 rfl rfl (by decide) ?_
      refine gq_iload_n (pc := 105) dX12_voice_105 rfl ?_
      refine gq_rV2i (pc := 106) dX12_voice_106 cv_X12_240 sh_76 (m_blinks_1 (f := (upd (upd (upd f 23 1) 24 e) 25 (p_e r j 1))) (k := 0) (by decide) rfl rfl) ⟨by decide, by decide⟩ rfl rfl (Nat.le_of_ble_eq_true rfl) ?_
      exact gq_iret (pc := 109) rfl dX12_voice_109 ⟨rfl, rfl⟩
    · exact absurd h_14 (show ¬ p_in 2 0 3 = 0 by decide)
set_option maxHeartbeats 400000 in
theorem m_voice_1_3 {e v : Int32} {j : Nat} (he : e = nI j) (hj : j < E) (hE : E ≤ 8) (e2 : r 2 = nI E) (ek : p_e r j 0 = 1) : ge_N X ge_SH YX12_voice 8 [.ref (ge_ad X.1 76), .int e, .int 3, .int v] (ge_m g r f) (some (.int ((((v + e) * 3) * 2) ^^^ (v - p_e r j 1)))) (ge_m (p_addm g 0 [13, 11, 20, 10, 12]) r (upd (upd (upd (upd f 23 1) 24 e) 25 (p_e r j 1)) 22 (nI (0 + 5)))) := by
  refine gq_ofB (l := [(0, .ref (ge_ad X.1 76)), (1, .int e), (2, .int 3), (3, .int v)]) (by decide) (Nat.le_of_ble_eq_true rfl) rfl ?_
  refine gq_aload_n (pc := 0) dX12_voice_0 rfl ?_
  refine gq_iload_n (pc := 1) dX12_voice_1 rfl ?_
  refine gq_rV1i (pc := 2) dX12_voice_2 cv_X12_66 sh_76 (k_isEye _) ⟨by decide, by decide⟩ rfl rfl (Nat.le_of_ble_eq_true rfl) ?_
  refine gq_if_eq (pc := 5) 17 dX12_voice_5 (by decide) (fun h_5 => ?_) (fun h_5 => ?_)
  · exact absurd h_5 (p_in_E he hj (by omega) e2)
  · refine gq_iload_n (pc := 8) dX12_voice_8 rfl ?_
    refine gq_iconst (pc := 9) dX12_voice_9 kc_0 ?_
    refine gq_iconst (pc := 10) dX12_voice_10 kc_3 ?_
    refine gq_rS3i (pc := 11) dX12_voice_11 cs_X12_41 (k_in _ _ _) ⟨by decide, by decide⟩ (Nat.le_of_ble_eq_true rfl) ?_
    refine gq_if_ne (pc := 14) 24 dX12_voice_14 (by decide) (fun h_14 => ?_) (fun h_14 => ?_)
    · refine gq_aload_n (pc := 24) dX12_voice_24 rfl ?_
      refine gq_iconst (pc := 25) dX12_voice_25 kc_0 ?_
      refine qm_puti (pc := 26) dX12_voice_26 fp_X12_225_12 sh_76 rfl ?_
      refine gq_aload_n (pc := 29) dX12_voice_29 rfl ?_
      refine gq_aload_n (pc := 30) dX12_voice_30 rfl ?_
      refine gq_iload_n (pc := 31) dX12_voice_31 rfl ?_
      refine gq_iconst (pc := 32) dX12_voice_32 kc_0 ?_
      refine gq_rV2i (pc := 33) dX12_voice_33 cv_X12_69 sh_76 (k_its he kl_0 (by omega)) ⟨by decide, by decide⟩ rfl rfl (Nat.le_of_ble_eq_true rfl) ?_
      rw [ek]
      refine qm_puti (pc := 36) dX12_voice_36 fp_X12_243_12 sh_76 rfl ?_
      refine gq_aload_n (pc := 39) dX12_voice_39 rfl ?_
      refine gq_iload_n (pc := 40) dX12_voice_40 rfl ?_
      refine qm_puti (pc := 41) dX12_voice_41 fp_X12_231_12 sh_76 rfl ?_
      refine gq_aload_n (pc := 44) dX12_voice_44 rfl ?_
      refine gq_aload_n (pc := 45) dX12_voice_45 rfl ?_
      refine gq_iload_n (pc := 46) dX12_voice_46 rfl ?_
      refine gq_iconst (pc := 47) dX12_voice_47 kc_1 ?_
      refine gq_rV2i (pc := 48) dX12_voice_48 cv_X12_69 sh_76 (k_its he kl_1 (by omega)) ⟨by decide, by decide⟩ rfl rfl (Nat.le_of_ble_eq_true rfl) ?_
      refine qm_puti (pc := 51) dX12_voice_51 fp_X12_237_12 sh_76 rfl ?_
      refine gq_tog (g := ge_m g r (upd (upd (upd (upd f 23 1) 24 e) 25 (p_e r j 1)) 22 (nI 0))) (by rw [p_uc (i := 22) (j := 23) (by decide), p_uc (i := 22) (j := 24) (by decide), p_uc (i := 22) (j := 25) (by decide)]; rfl) ?_
      refine gq_iload_n (pc := 54) dX12_voice_54 rfl ?_
      refine gq_tabO (pc := 55) 110 dX12_voice_55 (by decide) (by decide) ?_
      refine gq_aload_n (pc := 110) dX12_voice_110 rfl ?_
      refine gq_aload_n (pc := 111) dX12_voice_111 rfl ?_
      refine qw_get (v := 1) (pc := 112) dX12_voice_112 fl_X12_243_12 sh_76 rfl rfl (by decide) ?_
      refine gq_iload_n (pc := 115) dX12_voice_115 rfl ?_
      refine gq_rV2i (pc := 116) dX12_voice_116 cv_X12_249 sh_76 (m_tells_1_1 (f := (upd (upd (upd f 23 1) 24 e) 25 (p_e r j 1))) (k := 0) (by decide) rfl rfl rfl) ⟨by decide, by decide⟩ rfl rfl (Nat.le_of_ble_eq_true rfl) ?_
      exact gq_iret (pc := 119) rfl dX12_voice_119 ⟨rfl, rfl⟩
    · exact absurd h_14 (show ¬ p_in 3 0 3 = 0 by decide)
set_option maxHeartbeats 400000 in
theorem m_voice_2_0 {e v : Int32} {j : Nat} (he : e = nI j) (hj : j < E) (hE : E ≤ 8) (e2 : r 2 = nI E) (ek : p_e r j 0 = 2) : ge_N X ge_SH YX12_voice 4 [.ref (ge_ad X.1 76), .int e, .int 0, .int v] (ge_m g r f) (some (.int (v + e))) (ge_m (p_addm g 0 [10]) r (upd (upd (upd (upd f 23 2) 24 e) 25 (p_e r j 1)) 22 (nI (0 + 1)))) := by
  refine gq_ofB (l := [(0, .ref (ge_ad X.1 76)), (1, .int e), (2, .int 0), (3, .int v)]) (by decide) (Nat.le_of_ble_eq_true rfl) rfl ?_
  refine gq_aload_n (pc := 0) dX12_voice_0 rfl ?_
  refine gq_iload_n (pc := 1) dX12_voice_1 rfl ?_
  refine gq_rV1i (pc := 2) dX12_voice_2 cv_X12_66 sh_76 (k_isEye _) ⟨by decide, by decide⟩ rfl rfl (Nat.le_of_ble_eq_true rfl) ?_
  refine gq_if_eq (pc := 5) 17 dX12_voice_5 (by decide) (fun h_5 => ?_) (fun h_5 => ?_)
  · exact absurd h_5 (p_in_E he hj (by omega) e2)
  · refine gq_iload_n (pc := 8) dX12_voice_8 rfl ?_
    refine gq_iconst (pc := 9) dX12_voice_9 kc_0 ?_
    refine gq_iconst (pc := 10) dX12_voice_10 kc_3 ?_
    refine gq_rS3i (pc := 11) dX12_voice_11 cs_X12_41 (k_in _ _ _) ⟨by decide, by decide⟩ (Nat.le_of_ble_eq_true rfl) ?_
    refine gq_if_ne (pc := 14) 24 dX12_voice_14 (by decide) (fun h_14 => ?_) (fun h_14 => ?_)
    · refine gq_aload_n (pc := 24) dX12_voice_24 rfl ?_
      refine gq_iconst (pc := 25) dX12_voice_25 kc_0 ?_
      refine qm_puti (pc := 26) dX12_voice_26 fp_X12_225_12 sh_76 rfl ?_
      refine gq_aload_n (pc := 29) dX12_voice_29 rfl ?_
      refine gq_aload_n (pc := 30) dX12_voice_30 rfl ?_
      refine gq_iload_n (pc := 31) dX12_voice_31 rfl ?_
      refine gq_iconst (pc := 32) dX12_voice_32 kc_0 ?_
      refine gq_rV2i (pc := 33) dX12_voice_33 cv_X12_69 sh_76 (k_its he kl_0 (by omega)) ⟨by decide, by decide⟩ rfl rfl (Nat.le_of_ble_eq_true rfl) ?_
      rw [ek]
      refine qm_puti (pc := 36) dX12_voice_36 fp_X12_243_12 sh_76 rfl ?_
      refine gq_aload_n (pc := 39) dX12_voice_39 rfl ?_
      refine gq_iload_n (pc := 40) dX12_voice_40 rfl ?_
      refine qm_puti (pc := 41) dX12_voice_41 fp_X12_231_12 sh_76 rfl ?_
      refine gq_aload_n (pc := 44) dX12_voice_44 rfl ?_
      refine gq_aload_n (pc := 45) dX12_voice_45 rfl ?_
      refine gq_iload_n (pc := 46) dX12_voice_46 rfl ?_
      refine gq_iconst (pc := 47) dX12_voice_47 kc_1 ?_
      refine gq_rV2i (pc := 48) dX12_voice_48 cv_X12_69 sh_76 (k_its he kl_1 (by omega)) ⟨by decide, by decide⟩ rfl rfl (Nat.le_of_ble_eq_true rfl) ?_
      refine qm_puti (pc := 51) dX12_voice_51 fp_X12_237_12 sh_76 rfl ?_
      refine gq_tog (g := ge_m g r (upd (upd (upd (upd f 23 2) 24 e) 25 (p_e r j 1)) 22 (nI 0))) (by rw [p_uc (i := 22) (j := 23) (by decide), p_uc (i := 22) (j := 24) (by decide), p_uc (i := 22) (j := 25) (by decide)]; rfl) ?_
      refine gq_iload_n (pc := 54) dX12_voice_54 rfl ?_
      refine gq_tabI (pc := 55) (off := 25) 80 dX12_voice_55 (by decide) (by decide) (by decide) (by decide) ?_
      refine gq_aload_n (pc := 80) dX12_voice_80 rfl ?_
      refine gq_aload_n (pc := 81) dX12_voice_81 rfl ?_
      refine qw_get (v := 2) (pc := 82) dX12_voice_82 fl_X12_243_12 sh_76 rfl rfl (by decide) ?_
      refine gq_iload_n (pc := 85) dX12_voice_85 rfl ?_
      refine gq_rV2i (pc := 86) dX12_voice_86 cv_X12_234 sh_76 (m_sees_2 (f := (upd (upd (upd f 23 2) 24 e) 25 (p_e r j 1))) (k := 0) (by decide) rfl rfl) ⟨by decide, by decide⟩ rfl rfl (Nat.le_of_ble_eq_true rfl) ?_
      exact gq_iret (pc := 89) rfl dX12_voice_89 ⟨rfl, rfl⟩
    · exact absurd h_14 (show ¬ p_in 0 0 3 = 0 by decide)
set_option maxHeartbeats 400000 in
theorem m_voice_2_1 {e v : Int32} {j : Nat} (he : e = nI j) (hj : j < E) (hE : E ≤ 8) (e2 : r 2 = nI E) (ek : p_e r j 0 = 2) : ge_N X ge_SH YX12_voice 6 [.ref (ge_ad X.1 76), .int e, .int 1, .int v] (ge_m g r f) (some (.int (((v + e) * 2) - (1 - p_e r j 1)))) (ge_m (p_addm g 0 [30, 11, 10, 12]) r (upd (upd (upd (upd f 23 2) 24 e) 25 (p_e r j 1)) 22 (nI (0 + 4)))) := by
  refine gq_ofB (l := [(0, .ref (ge_ad X.1 76)), (1, .int e), (2, .int 1), (3, .int v)]) (by decide) (Nat.le_of_ble_eq_true rfl) rfl ?_
  refine gq_aload_n (pc := 0) dX12_voice_0 rfl ?_
  refine gq_iload_n (pc := 1) dX12_voice_1 rfl ?_
  refine gq_rV1i (pc := 2) dX12_voice_2 cv_X12_66 sh_76 (k_isEye _) ⟨by decide, by decide⟩ rfl rfl (Nat.le_of_ble_eq_true rfl) ?_
  refine gq_if_eq (pc := 5) 17 dX12_voice_5 (by decide) (fun h_5 => ?_) (fun h_5 => ?_)
  · exact absurd h_5 (p_in_E he hj (by omega) e2)
  · refine gq_iload_n (pc := 8) dX12_voice_8 rfl ?_
    refine gq_iconst (pc := 9) dX12_voice_9 kc_0 ?_
    refine gq_iconst (pc := 10) dX12_voice_10 kc_3 ?_
    refine gq_rS3i (pc := 11) dX12_voice_11 cs_X12_41 (k_in _ _ _) ⟨by decide, by decide⟩ (Nat.le_of_ble_eq_true rfl) ?_
    refine gq_if_ne (pc := 14) 24 dX12_voice_14 (by decide) (fun h_14 => ?_) (fun h_14 => ?_)
    · refine gq_aload_n (pc := 24) dX12_voice_24 rfl ?_
      refine gq_iconst (pc := 25) dX12_voice_25 kc_0 ?_
      refine qm_puti (pc := 26) dX12_voice_26 fp_X12_225_12 sh_76 rfl ?_
      refine gq_aload_n (pc := 29) dX12_voice_29 rfl ?_
      refine gq_aload_n (pc := 30) dX12_voice_30 rfl ?_
      refine gq_iload_n (pc := 31) dX12_voice_31 rfl ?_
      refine gq_iconst (pc := 32) dX12_voice_32 kc_0 ?_
      refine gq_rV2i (pc := 33) dX12_voice_33 cv_X12_69 sh_76 (k_its he kl_0 (by omega)) ⟨by decide, by decide⟩ rfl rfl (Nat.le_of_ble_eq_true rfl) ?_
      rw [ek]
      refine qm_puti (pc := 36) dX12_voice_36 fp_X12_243_12 sh_76 rfl ?_
      refine gq_aload_n (pc := 39) dX12_voice_39 rfl ?_
      refine gq_iload_n (pc := 40) dX12_voice_40 rfl ?_
      refine qm_puti (pc := 41) dX12_voice_41 fp_X12_231_12 sh_76 rfl ?_
      refine gq_aload_n (pc := 44) dX12_voice_44 rfl ?_
      refine gq_aload_n (pc := 45) dX12_voice_45 rfl ?_
      refine gq_iload_n (pc := 46) dX12_voice_46 rfl ?_
      refine gq_iconst (pc := 47) dX12_voice_47 kc_1 ?_
      refine gq_rV2i (pc := 48) dX12_voice_48 cv_X12_69 sh_76 (k_its he kl_1 (by omega)) ⟨by decide, by decide⟩ rfl rfl (Nat.le_of_ble_eq_true rfl) ?_
      refine qm_puti (pc := 51) dX12_voice_51 fp_X12_237_12 sh_76 rfl ?_
      refine gq_tog (g := ge_m g r (upd (upd (upd (upd f 23 2) 24 e) 25 (p_e r j 1)) 22 (nI 0))) (by rw [p_uc (i := 22) (j := 23) (by decide), p_uc (i := 22) (j := 24) (by decide), p_uc (i := 22) (j := 25) (by decide)]; rfl) ?_
      refine gq_iload_n (pc := 54) dX12_voice_54 rfl ?_
      refine gq_tabI (pc := 55) (off := 35) 90 dX12_voice_55 (by decide) (by decide) (by decide) (by decide) ?_
      refine gq_aload_n (pc := 90) dX12_voice_90 rfl ?_
      refine gq_aload_n (pc := 91) dX12_voice_91 rfl ?_
      refine qw_get (v := 2) (pc := 92) dX12_voice_92 fl_X12_243_12 sh_76 rfl rfl (by decide) ?_
      refine gq_iload_n (pc := 95) dX12_voice_95 rfl ?_
      refine gq_rV2i (pc := 96) dX12_voice_96 cv_X12_246 sh_76 (m_looks_2_2 (f := (upd (upd (upd f 23 2) 24 e) 25 (p_e r j 1))) (k := 0) (by decide) rfl rfl rfl) ⟨by decide, by decide⟩ rfl rfl (Nat.le_of_ble_eq_true rfl) ?_
      exact gq_iret (pc := 99) rfl dX12_voice_99 ⟨rfl, rfl⟩
    · exact absurd h_14 (show ¬ p_in 1 0 3 = 0 by decide)
set_option maxHeartbeats 400000 in
theorem m_voice_2_2 {e v : Int32} {j : Nat} (he : e = nI j) (hj : j < E) (hE : E ≤ 8) (e2 : r 2 = nI E) (ek : p_e r j 0 = 2) : ge_N X ge_SH YX12_voice 4 [.ref (ge_ad X.1 76), .int e, .int 2, .int v] (ge_m g r f) (some (.int (v - p_e r j 1))) (ge_m (p_addm g 0 [12]) r (upd (upd (upd (upd f 23 2) 24 e) 25 (p_e r j 1)) 22 (nI (0 + 1)))) := by
  refine gq_ofB (l := [(0, .ref (ge_ad X.1 76)), (1, .int e), (2, .int 2), (3, .int v)]) (by decide) (Nat.le_of_ble_eq_true rfl) rfl ?_
  refine gq_aload_n (pc := 0) dX12_voice_0 rfl ?_
  refine gq_iload_n (pc := 1) dX12_voice_1 rfl ?_
  refine gq_rV1i (pc := 2) dX12_voice_2 cv_X12_66 sh_76 (k_isEye _) ⟨by decide, by decide⟩ rfl rfl (Nat.le_of_ble_eq_true rfl) ?_
  refine gq_if_eq (pc := 5) 17 dX12_voice_5 (by decide) (fun h_5 => ?_) (fun h_5 => ?_)
  · exact absurd h_5 (p_in_E he hj (by omega) e2)
  · refine gq_iload_n (pc := 8) dX12_voice_8 rfl ?_
    refine gq_iconst (pc := 9) dX12_voice_9 kc_0 ?_
    refine gq_iconst (pc := 10) dX12_voice_10 kc_3 ?_
    refine gq_rS3i (pc := 11) dX12_voice_11 cs_X12_41 (k_in _ _ _) ⟨by decide, by decide⟩ (Nat.le_of_ble_eq_true rfl) ?_
    refine gq_if_ne (pc := 14) 24 dX12_voice_14 (by decide) (fun h_14 => ?_) (fun h_14 => ?_)
    · refine gq_aload_n (pc := 24) dX12_voice_24 rfl ?_
      refine gq_iconst (pc := 25) dX12_voice_25 kc_0 ?_
      refine qm_puti (pc := 26) dX12_voice_26 fp_X12_225_12 sh_76 rfl ?_
      refine gq_aload_n (pc := 29) dX12_voice_29 rfl ?_
      refine gq_aload_n (pc := 30) dX12_voice_30 rfl ?_
      refine gq_iload_n (pc := 31) dX12_voice_31 rfl ?_
      refine gq_iconst (pc := 32) dX12_voice_32 kc_0 ?_
      refine gq_rV2i (pc := 33) dX12_voice_33 cv_X12_69 sh_76 (k_its he kl_0 (by omega)) ⟨by decide, by decide⟩ rfl rfl (Nat.le_of_ble_eq_true rfl) ?_
      rw [ek]
      refine qm_puti (pc := 36) dX12_voice_36 fp_X12_243_12 sh_76 rfl ?_
      refine gq_aload_n (pc := 39) dX12_voice_39 rfl ?_
      refine gq_iload_n (pc := 40) dX12_voice_40 rfl ?_
      refine qm_puti (pc := 41) dX12_voice_41 fp_X12_231_12 sh_76 rfl ?_
      refine gq_aload_n (pc := 44) dX12_voice_44 rfl ?_
      refine gq_aload_n (pc := 45) dX12_voice_45 rfl ?_
      refine gq_iload_n (pc := 46) dX12_voice_46 rfl ?_
      refine gq_iconst (pc := 47) dX12_voice_47 kc_1 ?_
      refine gq_rV2i (pc := 48) dX12_voice_48 cv_X12_69 sh_76 (k_its he kl_1 (by omega)) ⟨by decide, by decide⟩ rfl rfl (Nat.le_of_ble_eq_true rfl) ?_
      refine qm_puti (pc := 51) dX12_voice_51 fp_X12_237_12 sh_76 rfl ?_
      refine gq_tog (g := ge_m g r (upd (upd (upd (upd f 23 2) 24 e) 25 (p_e r j 1)) 22 (nI 0))) (by rw [p_uc (i := 22) (j := 23) (by decide), p_uc (i := 22) (j := 24) (by decide), p_uc (i := 22) (j := 25) (by decide)]; rfl) ?_
      refine gq_iload_n (pc := 54) dX12_voice_54 rfl ?_
      refine gq_tabI (pc := 55) (off := 45) 100 dX12_voice_55 (by decide) (by decide) (by decide) (by decide) ?_
      refine gq_aload_n (pc := 100) dX12_voice_100 rfl ?_
      refine gq_aload_n (pc := 101) dX12_voice_101 rfl ?_
      refine qw_get (v := 2) (pc := 102) dX12_voice_102 fl_X12_243_12 sh_76 rfl rfl (by decide) ?_
      refine gq_iload_n (pc := 105) dX12_voice_105 rfl ?_
      refine gq_rV2i (pc := 106) dX12_voice_106 cv_X12_240 sh_76 (m_blinks_2 (f := (upd (upd (upd f 23 2) 24 e) 25 (p_e r j 1))) (k := 0) (by decide) rfl rfl) ⟨by decide, by decide⟩ rfl rfl (Nat.le_of_ble_eq_true rfl) ?_
      exact gq_iret (pc := 109) rfl dX12_voice_109 ⟨rfl, rfl⟩
    · exact absurd h_14 (show ¬ p_in 2 0 3 = 0 by decide)
set_option maxHeartbeats 400000 in
theorem m_voice_2_3 {e v : Int32} {j : Nat} (he : e = nI j) (hj : j < E) (hE : E ≤ 8) (e2 : r 2 = nI E) (ek : p_e r j 0 = 2) : ge_N X ge_SH YX12_voice 8 [.ref (ge_ad X.1 76), .int e, .int 3, .int v] (ge_m g r f) (some (.int ((((v + e) * 2) - (1 - p_e r j 1)) ^^^ (v - p_e r j 1)))) (ge_m (p_addm g 0 [13, 30, 11, 10, 12, 12]) r (upd (upd (upd (upd f 23 2) 24 e) 25 (p_e r j 1)) 22 (nI (0 + 6)))) := by
  refine gq_ofB (l := [(0, .ref (ge_ad X.1 76)), (1, .int e), (2, .int 3), (3, .int v)]) (by decide) (Nat.le_of_ble_eq_true rfl) rfl ?_
  refine gq_aload_n (pc := 0) dX12_voice_0 rfl ?_
  refine gq_iload_n (pc := 1) dX12_voice_1 rfl ?_
  refine gq_rV1i (pc := 2) dX12_voice_2 cv_X12_66 sh_76 (k_isEye _) ⟨by decide, by decide⟩ rfl rfl (Nat.le_of_ble_eq_true rfl) ?_
  refine gq_if_eq (pc := 5) 17 dX12_voice_5 (by decide) (fun h_5 => ?_) (fun h_5 => ?_)
  · exact absurd h_5 (p_in_E he hj (by omega) e2)
  · refine gq_iload_n (pc := 8) dX12_voice_8 rfl ?_
    refine gq_iconst (pc := 9) dX12_voice_9 kc_0 ?_
    refine gq_iconst (pc := 10) dX12_voice_10 kc_3 ?_
    refine gq_rS3i (pc := 11) dX12_voice_11 cs_X12_41 (k_in _ _ _) ⟨by decide, by decide⟩ (Nat.le_of_ble_eq_true rfl) ?_
    refine gq_if_ne (pc := 14) 24 dX12_voice_14 (by decide) (fun h_14 => ?_) (fun h_14 => ?_)
    · refine gq_aload_n (pc := 24) dX12_voice_24 rfl ?_
      refine gq_iconst (pc := 25) dX12_voice_25 kc_0 ?_
      refine qm_puti (pc := 26) dX12_voice_26 fp_X12_225_12 sh_76 rfl ?_
      refine gq_aload_n (pc := 29) dX12_voice_29 rfl ?_
      refine gq_aload_n (pc := 30) dX12_voice_30 rfl ?_
      refine gq_iload_n (pc := 31) dX12_voice_31 rfl ?_
      refine gq_iconst (pc := 32) dX12_voice_32 kc_0 ?_
      refine gq_rV2i (pc := 33) dX12_voice_33 cv_X12_69 sh_76 (k_its he kl_0 (by omega)) ⟨by decide, by decide⟩ rfl rfl (Nat.le_of_ble_eq_true rfl) ?_
      rw [ek]
      refine qm_puti (pc := 36) dX12_voice_36 fp_X12_243_12 sh_76 rfl ?_
      refine gq_aload_n (pc := 39) dX12_voice_39 rfl ?_
      refine gq_iload_n (pc := 40) dX12_voice_40 rfl ?_
      refine qm_puti (pc := 41) dX12_voice_41 fp_X12_231_12 sh_76 rfl ?_
      refine gq_aload_n (pc := 44) dX12_voice_44 rfl ?_
      refine gq_aload_n (pc := 45) dX12_voice_45 rfl ?_
      refine gq_iload_n (pc := 46) dX12_voice_46 rfl ?_
      refine gq_iconst (pc := 47) dX12_voice_47 kc_1 ?_
      refine gq_rV2i (pc := 48) dX12_voice_48 cv_X12_69 sh_76 (k_its he kl_1 (by omega)) ⟨by decide, by decide⟩ rfl rfl (Nat.le_of_ble_eq_true rfl) ?_
      refine qm_puti (pc := 51) dX12_voice_51 fp_X12_237_12 sh_76 rfl ?_
      refine gq_tog (g := ge_m g r (upd (upd (upd (upd f 23 2) 24 e) 25 (p_e r j 1)) 22 (nI 0))) (by rw [p_uc (i := 22) (j := 23) (by decide), p_uc (i := 22) (j := 24) (by decide), p_uc (i := 22) (j := 25) (by decide)]; rfl) ?_
      refine gq_iload_n (pc := 54) dX12_voice_54 rfl ?_
      refine gq_tabO (pc := 55) 110 dX12_voice_55 (by decide) (by decide) ?_
      refine gq_aload_n (pc := 110) dX12_voice_110 rfl ?_
      refine gq_aload_n (pc := 111) dX12_voice_111 rfl ?_
      refine qw_get (v := 2) (pc := 112) dX12_voice_112 fl_X12_243_12 sh_76 rfl rfl (by decide) ?_
      refine gq_iload_n (pc := 115) dX12_voice_115 rfl ?_
      refine gq_rV2i (pc := 116) dX12_voice_116 cv_X12_249 sh_76 (m_tells_2_2 (f := (upd (upd (upd f 23 2) 24 e) 25 (p_e r j 1))) (k := 0) (by decide) rfl rfl rfl) ⟨by decide, by decide⟩ rfl rfl (Nat.le_of_ble_eq_true rfl) ?_
      exact gq_iret (pc := 119) rfl dX12_voice_119 ⟨rfl, rfl⟩
    · exact absurd h_14 (show ¬ p_in 3 0 3 = 0 by decide)
set_option maxHeartbeats 400000 in
theorem m_voice_3_0 {e v : Int32} {j : Nat} (he : e = nI j) (hj : j < E) (hE : E ≤ 8) (e2 : r 2 = nI E) (ek : p_e r j 0 = 3) : ge_N X ge_SH YX12_voice 4 [.ref (ge_ad X.1 76), .int e, .int 0, .int v] (ge_m g r f) (some (.int (v + e))) (ge_m (p_addm g 0 [10]) r (upd (upd (upd (upd f 23 3) 24 e) 25 (p_e r j 1)) 22 (nI (0 + 1)))) := by
  refine gq_ofB (l := [(0, .ref (ge_ad X.1 76)), (1, .int e), (2, .int 0), (3, .int v)]) (by decide) (Nat.le_of_ble_eq_true rfl) rfl ?_
  refine gq_aload_n (pc := 0) dX12_voice_0 rfl ?_
  refine gq_iload_n (pc := 1) dX12_voice_1 rfl ?_
  refine gq_rV1i (pc := 2) dX12_voice_2 cv_X12_66 sh_76 (k_isEye _) ⟨by decide, by decide⟩ rfl rfl (Nat.le_of_ble_eq_true rfl) ?_
  refine gq_if_eq (pc := 5) 17 dX12_voice_5 (by decide) (fun h_5 => ?_) (fun h_5 => ?_)
  · exact absurd h_5 (p_in_E he hj (by omega) e2)
  · refine gq_iload_n (pc := 8) dX12_voice_8 rfl ?_
    refine gq_iconst (pc := 9) dX12_voice_9 kc_0 ?_
    refine gq_iconst (pc := 10) dX12_voice_10 kc_3 ?_
    refine gq_rS3i (pc := 11) dX12_voice_11 cs_X12_41 (k_in _ _ _) ⟨by decide, by decide⟩ (Nat.le_of_ble_eq_true rfl) ?_
    refine gq_if_ne (pc := 14) 24 dX12_voice_14 (by decide) (fun h_14 => ?_) (fun h_14 => ?_)
    · refine gq_aload_n (pc := 24) dX12_voice_24 rfl ?_
      refine gq_iconst (pc := 25) dX12_voice_25 kc_0 ?_
      refine qm_puti (pc := 26) dX12_voice_26 fp_X12_225_12 sh_76 rfl ?_
      refine gq_aload_n (pc := 29) dX12_voice_29 rfl ?_
      refine gq_aload_n (pc := 30) dX12_voice_30 rfl ?_
      refine gq_iload_n (pc := 31) dX12_voice_31 rfl ?_
      refine gq_iconst (pc := 32) dX12_voice_32 kc_0 ?_
      refine gq_rV2i (pc := 33) dX12_voice_33 cv_X12_69 sh_76 (k_its he kl_0 (by omega)) ⟨by decide, by decide⟩ rfl rfl (Nat.le_of_ble_eq_true rfl) ?_
      rw [ek]
      refine qm_puti (pc := 36) dX12_voice_36 fp_X12_243_12 sh_76 rfl ?_
      refine gq_aload_n (pc := 39) dX12_voice_39 rfl ?_
      refine gq_iload_n (pc := 40) dX12_voice_40 rfl ?_
      refine qm_puti (pc := 41) dX12_voice_41 fp_X12_231_12 sh_76 rfl ?_
      refine gq_aload_n (pc := 44) dX12_voice_44 rfl ?_
      refine gq_aload_n (pc := 45) dX12_voice_45 rfl ?_
      refine gq_iload_n (pc := 46) dX12_voice_46 rfl ?_
      refine gq_iconst (pc := 47) dX12_voice_47 kc_1 ?_
      refine gq_rV2i (pc := 48) dX12_voice_48 cv_X12_69 sh_76 (k_its he kl_1 (by omega)) ⟨by decide, by decide⟩ rfl rfl (Nat.le_of_ble_eq_true rfl) ?_
      refine qm_puti (pc := 51) dX12_voice_51 fp_X12_237_12 sh_76 rfl ?_
      refine gq_tog (g := ge_m g r (upd (upd (upd (upd f 23 3) 24 e) 25 (p_e r j 1)) 22 (nI 0))) (by rw [p_uc (i := 22) (j := 23) (by decide), p_uc (i := 22) (j := 24) (by decide), p_uc (i := 22) (j := 25) (by decide)]; rfl) ?_
      refine gq_iload_n (pc := 54) dX12_voice_54 rfl ?_
      refine gq_tabI (pc := 55) (off := 25) 80 dX12_voice_55 (by decide) (by decide) (by decide) (by decide) ?_
      refine gq_aload_n (pc := 80) dX12_voice_80 rfl ?_
      refine gq_aload_n (pc := 81) dX12_voice_81 rfl ?_
      refine qw_get (v := 3) (pc := 82) dX12_voice_82 fl_X12_243_12 sh_76 rfl rfl (by decide) ?_
      refine gq_iload_n (pc := 85) dX12_voice_85 rfl ?_
      refine gq_rV2i (pc := 86) dX12_voice_86 cv_X12_234 sh_76 (m_sees_3 (f := (upd (upd (upd f 23 3) 24 e) 25 (p_e r j 1))) (k := 0) (by decide) rfl rfl) ⟨by decide, by decide⟩ rfl rfl (Nat.le_of_ble_eq_true rfl) ?_
      exact gq_iret (pc := 89) rfl dX12_voice_89 ⟨rfl, rfl⟩
    · exact absurd h_14 (show ¬ p_in 0 0 3 = 0 by decide)
set_option maxHeartbeats 400000 in
theorem m_voice_3_1 {e v : Int32} {j : Nat} (he : e = nI j) (hj : j < E) (hE : E ≤ 8) (e2 : r 2 = nI E) (ek : p_e r j 0 = 3) : ge_N X ge_SH YX12_voice 6 [.ref (ge_ad X.1 76), .int e, .int 1, .int v] (ge_m g r f) (some (.int ((v + e) * 2))) (ge_m (p_addm g 0 [11, 10]) r (upd (upd (upd (upd f 23 3) 24 e) 25 (p_e r j 1)) 22 (nI (0 + 2)))) := by
  refine gq_ofB (l := [(0, .ref (ge_ad X.1 76)), (1, .int e), (2, .int 1), (3, .int v)]) (by decide) (Nat.le_of_ble_eq_true rfl) rfl ?_
  refine gq_aload_n (pc := 0) dX12_voice_0 rfl ?_
  refine gq_iload_n (pc := 1) dX12_voice_1 rfl ?_
  refine gq_rV1i (pc := 2) dX12_voice_2 cv_X12_66 sh_76 (k_isEye _) ⟨by decide, by decide⟩ rfl rfl (Nat.le_of_ble_eq_true rfl) ?_
  refine gq_if_eq (pc := 5) 17 dX12_voice_5 (by decide) (fun h_5 => ?_) (fun h_5 => ?_)
  · exact absurd h_5 (p_in_E he hj (by omega) e2)
  · refine gq_iload_n (pc := 8) dX12_voice_8 rfl ?_
    refine gq_iconst (pc := 9) dX12_voice_9 kc_0 ?_
    refine gq_iconst (pc := 10) dX12_voice_10 kc_3 ?_
    refine gq_rS3i (pc := 11) dX12_voice_11 cs_X12_41 (k_in _ _ _) ⟨by decide, by decide⟩ (Nat.le_of_ble_eq_true rfl) ?_
    refine gq_if_ne (pc := 14) 24 dX12_voice_14 (by decide) (fun h_14 => ?_) (fun h_14 => ?_)
    · refine gq_aload_n (pc := 24) dX12_voice_24 rfl ?_
      refine gq_iconst (pc := 25) dX12_voice_25 kc_0 ?_
      refine qm_puti (pc := 26) dX12_voice_26 fp_X12_225_12 sh_76 rfl ?_
      refine gq_aload_n (pc := 29) dX12_voice_29 rfl ?_
      refine gq_aload_n (pc := 30) dX12_voice_30 rfl ?_
      refine gq_iload_n (pc := 31) dX12_voice_31 rfl ?_
      refine gq_iconst (pc := 32) dX12_voice_32 kc_0 ?_
      refine gq_rV2i (pc := 33) dX12_voice_33 cv_X12_69 sh_76 (k_its he kl_0 (by omega)) ⟨by decide, by decide⟩ rfl rfl (Nat.le_of_ble_eq_true rfl) ?_
      rw [ek]
      refine qm_puti (pc := 36) dX12_voice_36 fp_X12_243_12 sh_76 rfl ?_
      refine gq_aload_n (pc := 39) dX12_voice_39 rfl ?_
      refine gq_iload_n (pc := 40) dX12_voice_40 rfl ?_
      refine qm_puti (pc := 41) dX12_voice_41 fp_X12_231_12 sh_76 rfl ?_
      refine gq_aload_n (pc := 44) dX12_voice_44 rfl ?_
      refine gq_aload_n (pc := 45) dX12_voice_45 rfl ?_
      refine gq_iload_n (pc := 46) dX12_voice_46 rfl ?_
      refine gq_iconst (pc := 47) dX12_voice_47 kc_1 ?_
      refine gq_rV2i (pc := 48) dX12_voice_48 cv_X12_69 sh_76 (k_its he kl_1 (by omega)) ⟨by decide, by decide⟩ rfl rfl (Nat.le_of_ble_eq_true rfl) ?_
      refine qm_puti (pc := 51) dX12_voice_51 fp_X12_237_12 sh_76 rfl ?_
      refine gq_tog (g := ge_m g r (upd (upd (upd (upd f 23 3) 24 e) 25 (p_e r j 1)) 22 (nI 0))) (by rw [p_uc (i := 22) (j := 23) (by decide), p_uc (i := 22) (j := 24) (by decide), p_uc (i := 22) (j := 25) (by decide)]; rfl) ?_
      refine gq_iload_n (pc := 54) dX12_voice_54 rfl ?_
      refine gq_tabI (pc := 55) (off := 35) 90 dX12_voice_55 (by decide) (by decide) (by decide) (by decide) ?_
      refine gq_aload_n (pc := 90) dX12_voice_90 rfl ?_
      refine gq_aload_n (pc := 91) dX12_voice_91 rfl ?_
      refine qw_get (v := 3) (pc := 92) dX12_voice_92 fl_X12_243_12 sh_76 rfl rfl (by decide) ?_
      refine gq_iload_n (pc := 95) dX12_voice_95 rfl ?_
      refine gq_rV2i (pc := 96) dX12_voice_96 cv_X12_246 sh_76 (m_looks_3_3 (f := (upd (upd (upd f 23 3) 24 e) 25 (p_e r j 1))) (k := 0) (by decide) rfl rfl rfl) ⟨by decide, by decide⟩ rfl rfl (Nat.le_of_ble_eq_true rfl) ?_
      exact gq_iret (pc := 99) rfl dX12_voice_99 ⟨rfl, rfl⟩
    · exact absurd h_14 (show ¬ p_in 1 0 3 = 0 by decide)
set_option maxHeartbeats 400000 in
theorem m_voice_3_2 {e v : Int32} {j : Nat} (he : e = nI j) (hj : j < E) (hE : E ≤ 8) (e2 : r 2 = nI E) (ek : p_e r j 0 = 3) : ge_N X ge_SH YX12_voice 4 [.ref (ge_ad X.1 76), .int e, .int 2, .int v] (ge_m g r f) (some (.int (-(v - p_e r j 1)))) (ge_m (p_addm g 0 [40, 12]) r (upd (upd (upd (upd f 23 3) 24 e) 25 (p_e r j 1)) 22 (nI (0 + 2)))) := by
  refine gq_ofB (l := [(0, .ref (ge_ad X.1 76)), (1, .int e), (2, .int 2), (3, .int v)]) (by decide) (Nat.le_of_ble_eq_true rfl) rfl ?_
  refine gq_aload_n (pc := 0) dX12_voice_0 rfl ?_
  refine gq_iload_n (pc := 1) dX12_voice_1 rfl ?_
  refine gq_rV1i (pc := 2) dX12_voice_2 cv_X12_66 sh_76 (k_isEye _) ⟨by decide, by decide⟩ rfl rfl (Nat.le_of_ble_eq_true rfl) ?_
  refine gq_if_eq (pc := 5) 17 dX12_voice_5 (by decide) (fun h_5 => ?_) (fun h_5 => ?_)
  · exact absurd h_5 (p_in_E he hj (by omega) e2)
  · refine gq_iload_n (pc := 8) dX12_voice_8 rfl ?_
    refine gq_iconst (pc := 9) dX12_voice_9 kc_0 ?_
    refine gq_iconst (pc := 10) dX12_voice_10 kc_3 ?_
    refine gq_rS3i (pc := 11) dX12_voice_11 cs_X12_41 (k_in _ _ _) ⟨by decide, by decide⟩ (Nat.le_of_ble_eq_true rfl) ?_
    refine gq_if_ne (pc := 14) 24 dX12_voice_14 (by decide) (fun h_14 => ?_) (fun h_14 => ?_)
    · refine gq_aload_n (pc := 24) dX12_voice_24 rfl ?_
      refine gq_iconst (pc := 25) dX12_voice_25 kc_0 ?_
      refine qm_puti (pc := 26) dX12_voice_26 fp_X12_225_12 sh_76 rfl ?_
      refine gq_aload_n (pc := 29) dX12_voice_29 rfl ?_
      refine gq_aload_n (pc := 30) dX12_voice_30 rfl ?_
      refine gq_iload_n (pc := 31) dX12_voice_31 rfl ?_
      refine gq_iconst (pc := 32) dX12_voice_32 kc_0 ?_
      refine gq_rV2i (pc := 33) dX12_voice_33 cv_X12_69 sh_76 (k_its he kl_0 (by omega)) ⟨by decide, by decide⟩ rfl rfl (Nat.le_of_ble_eq_true rfl) ?_
      rw [ek]
      refine qm_puti (pc := 36) dX12_voice_36 fp_X12_243_12 sh_76 rfl ?_
      refine gq_aload_n (pc := 39) dX12_voice_39 rfl ?_
      refine gq_iload_n (pc := 40) dX12_voice_40 rfl ?_
      refine qm_puti (pc := 41) dX12_voice_41 fp_X12_231_12 sh_76 rfl ?_
      refine gq_aload_n (pc := 44) dX12_voice_44 rfl ?_
      refine gq_aload_n (pc := 45) dX12_voice_45 rfl ?_
      refine gq_iload_n (pc := 46) dX12_voice_46 rfl ?_
      refine gq_iconst (pc := 47) dX12_voice_47 kc_1 ?_
      refine gq_rV2i (pc := 48) dX12_voice_48 cv_X12_69 sh_76 (k_its he kl_1 (by omega)) ⟨by decide, by decide⟩ rfl rfl (Nat.le_of_ble_eq_true rfl) ?_
      refine qm_puti (pc := 51) dX12_voice_51 fp_X12_237_12 sh_76 rfl ?_
      refine gq_tog (g := ge_m g r (upd (upd (upd (upd f 23 3) 24 e) 25 (p_e r j 1)) 22 (nI 0))) (by rw [p_uc (i := 22) (j := 23) (by decide), p_uc (i := 22) (j := 24) (by decide), p_uc (i := 22) (j := 25) (by decide)]; rfl) ?_
      refine gq_iload_n (pc := 54) dX12_voice_54 rfl ?_
      refine gq_tabI (pc := 55) (off := 45) 100 dX12_voice_55 (by decide) (by decide) (by decide) (by decide) ?_
      refine gq_aload_n (pc := 100) dX12_voice_100 rfl ?_
      refine gq_aload_n (pc := 101) dX12_voice_101 rfl ?_
      refine qw_get (v := 3) (pc := 102) dX12_voice_102 fl_X12_243_12 sh_76 rfl rfl (by decide) ?_
      refine gq_iload_n (pc := 105) dX12_voice_105 rfl ?_
      refine gq_rV2i (pc := 106) dX12_voice_106 cv_X12_240 sh_76 (m_blinks_3 (f := (upd (upd (upd f 23 3) 24 e) 25 (p_e r j 1))) (k := 0) (by decide) rfl rfl) ⟨by decide, by decide⟩ rfl rfl (Nat.le_of_ble_eq_true rfl) ?_
      exact gq_iret (pc := 109) rfl dX12_voice_109 ⟨rfl, rfl⟩
    · exact absurd h_14 (show ¬ p_in 2 0 3 = 0 by decide)
set_option maxHeartbeats 400000 in
theorem m_voice_3_3 {e v : Int32} {j : Nat} (he : e = nI j) (hj : j < E) (hE : E ≤ 8) (e2 : r 2 = nI E) (ek : p_e r j 0 = 3) : ge_N X ge_SH YX12_voice 8 [.ref (ge_ad X.1 76), .int e, .int 3, .int v] (ge_m g r f) (some (.int (((v + e) * 2) ^^^ (-(v - p_e r j 1))))) (ge_m (p_addm g 0 [13, 11, 10, 40, 12]) r (upd (upd (upd (upd f 23 3) 24 e) 25 (p_e r j 1)) 22 (nI (0 + 5)))) := by
  refine gq_ofB (l := [(0, .ref (ge_ad X.1 76)), (1, .int e), (2, .int 3), (3, .int v)]) (by decide) (Nat.le_of_ble_eq_true rfl) rfl ?_
  refine gq_aload_n (pc := 0) dX12_voice_0 rfl ?_
  refine gq_iload_n (pc := 1) dX12_voice_1 rfl ?_
  refine gq_rV1i (pc := 2) dX12_voice_2 cv_X12_66 sh_76 (k_isEye _) ⟨by decide, by decide⟩ rfl rfl (Nat.le_of_ble_eq_true rfl) ?_
  refine gq_if_eq (pc := 5) 17 dX12_voice_5 (by decide) (fun h_5 => ?_) (fun h_5 => ?_)
  · exact absurd h_5 (p_in_E he hj (by omega) e2)
  · refine gq_iload_n (pc := 8) dX12_voice_8 rfl ?_
    refine gq_iconst (pc := 9) dX12_voice_9 kc_0 ?_
    refine gq_iconst (pc := 10) dX12_voice_10 kc_3 ?_
    refine gq_rS3i (pc := 11) dX12_voice_11 cs_X12_41 (k_in _ _ _) ⟨by decide, by decide⟩ (Nat.le_of_ble_eq_true rfl) ?_
    refine gq_if_ne (pc := 14) 24 dX12_voice_14 (by decide) (fun h_14 => ?_) (fun h_14 => ?_)
    · refine gq_aload_n (pc := 24) dX12_voice_24 rfl ?_
      refine gq_iconst (pc := 25) dX12_voice_25 kc_0 ?_
      refine qm_puti (pc := 26) dX12_voice_26 fp_X12_225_12 sh_76 rfl ?_
      refine gq_aload_n (pc := 29) dX12_voice_29 rfl ?_
      refine gq_aload_n (pc := 30) dX12_voice_30 rfl ?_
      refine gq_iload_n (pc := 31) dX12_voice_31 rfl ?_
      refine gq_iconst (pc := 32) dX12_voice_32 kc_0 ?_
      refine gq_rV2i (pc := 33) dX12_voice_33 cv_X12_69 sh_76 (k_its he kl_0 (by omega)) ⟨by decide, by decide⟩ rfl rfl (Nat.le_of_ble_eq_true rfl) ?_
      rw [ek]
      refine qm_puti (pc := 36) dX12_voice_36 fp_X12_243_12 sh_76 rfl ?_
      refine gq_aload_n (pc := 39) dX12_voice_39 rfl ?_
      refine gq_iload_n (pc := 40) dX12_voice_40 rfl ?_
      refine qm_puti (pc := 41) dX12_voice_41 fp_X12_231_12 sh_76 rfl ?_
      refine gq_aload_n (pc := 44) dX12_voice_44 rfl ?_
      refine gq_aload_n (pc := 45) dX12_voice_45 rfl ?_
      refine gq_iload_n (pc := 46) dX12_voice_46 rfl ?_
      refine gq_iconst (pc := 47) dX12_voice_47 kc_1 ?_
      refine gq_rV2i (pc := 48) dX12_voice_48 cv_X12_69 sh_76 (k_its he kl_1 (by omega)) ⟨by decide, by decide⟩ rfl rfl (Nat.le_of_ble_eq_true rfl) ?_
      refine qm_puti (pc := 51) dX12_voice_51 fp_X12_237_12 sh_76 rfl ?_
      refine gq_tog (g := ge_m g r (upd (upd (upd (upd f 23 3) 24 e) 25 (p_e r j 1)) 22 (nI 0))) (by rw [p_uc (i := 22) (j := 23) (by decide), p_uc (i := 22) (j := 24) (by decide), p_uc (i := 22) (j := 25) (by decide)]; rfl) ?_
      refine gq_iload_n (pc := 54) dX12_voice_54 rfl ?_
      refine gq_tabO (pc := 55) 110 dX12_voice_55 (by decide) (by decide) ?_
      refine gq_aload_n (pc := 110) dX12_voice_110 rfl ?_
      refine gq_aload_n (pc := 111) dX12_voice_111 rfl ?_
      refine qw_get (v := 3) (pc := 112) dX12_voice_112 fl_X12_243_12 sh_76 rfl rfl (by decide) ?_
      refine gq_iload_n (pc := 115) dX12_voice_115 rfl ?_
      refine gq_rV2i (pc := 116) dX12_voice_116 cv_X12_249 sh_76 (m_tells_3_3 (f := (upd (upd (upd f 23 3) 24 e) 25 (p_e r j 1))) (k := 0) (by decide) rfl rfl rfl) ⟨by decide, by decide⟩ rfl rfl (Nat.le_of_ble_eq_true rfl) ?_
      exact gq_iret (pc := 119) rfl dX12_voice_119 ⟨rfl, rfl⟩
    · exact absurd h_14 (show ¬ p_in 3 0 3 = 0 by decide)
set_option maxHeartbeats 400000 in
theorem m_voice_4_0 {e v : Int32} {j : Nat} (he : e = nI j) (hj : j < E) (hE : E ≤ 8) (e2 : r 2 = nI E) (ek : p_e r j 0 = 4) : ge_N X ge_SH YX12_voice 5 [.ref (ge_ad X.1 76), .int e, .int 0, .int v] (ge_m g r f) (some (.int ((v + e) * 3))) (ge_m (p_addm g 0 [20, 10]) r (upd (upd (upd (upd f 23 4) 24 e) 25 (p_e r j 1)) 22 (nI (0 + 2)))) := by
  refine gq_ofB (l := [(0, .ref (ge_ad X.1 76)), (1, .int e), (2, .int 0), (3, .int v)]) (by decide) (Nat.le_of_ble_eq_true rfl) rfl ?_
  refine gq_aload_n (pc := 0) dX12_voice_0 rfl ?_
  refine gq_iload_n (pc := 1) dX12_voice_1 rfl ?_
  refine gq_rV1i (pc := 2) dX12_voice_2 cv_X12_66 sh_76 (k_isEye _) ⟨by decide, by decide⟩ rfl rfl (Nat.le_of_ble_eq_true rfl) ?_
  refine gq_if_eq (pc := 5) 17 dX12_voice_5 (by decide) (fun h_5 => ?_) (fun h_5 => ?_)
  · exact absurd h_5 (p_in_E he hj (by omega) e2)
  · refine gq_iload_n (pc := 8) dX12_voice_8 rfl ?_
    refine gq_iconst (pc := 9) dX12_voice_9 kc_0 ?_
    refine gq_iconst (pc := 10) dX12_voice_10 kc_3 ?_
    refine gq_rS3i (pc := 11) dX12_voice_11 cs_X12_41 (k_in _ _ _) ⟨by decide, by decide⟩ (Nat.le_of_ble_eq_true rfl) ?_
    refine gq_if_ne (pc := 14) 24 dX12_voice_14 (by decide) (fun h_14 => ?_) (fun h_14 => ?_)
    · refine gq_aload_n (pc := 24) dX12_voice_24 rfl ?_
      refine gq_iconst (pc := 25) dX12_voice_25 kc_0 ?_
      refine qm_puti (pc := 26) dX12_voice_26 fp_X12_225_12 sh_76 rfl ?_
      refine gq_aload_n (pc := 29) dX12_voice_29 rfl ?_
      refine gq_aload_n (pc := 30) dX12_voice_30 rfl ?_
      refine gq_iload_n (pc := 31) dX12_voice_31 rfl ?_
      refine gq_iconst (pc := 32) dX12_voice_32 kc_0 ?_
      refine gq_rV2i (pc := 33) dX12_voice_33 cv_X12_69 sh_76 (k_its he kl_0 (by omega)) ⟨by decide, by decide⟩ rfl rfl (Nat.le_of_ble_eq_true rfl) ?_
      rw [ek]
      refine qm_puti (pc := 36) dX12_voice_36 fp_X12_243_12 sh_76 rfl ?_
      refine gq_aload_n (pc := 39) dX12_voice_39 rfl ?_
      refine gq_iload_n (pc := 40) dX12_voice_40 rfl ?_
      refine qm_puti (pc := 41) dX12_voice_41 fp_X12_231_12 sh_76 rfl ?_
      refine gq_aload_n (pc := 44) dX12_voice_44 rfl ?_
      refine gq_aload_n (pc := 45) dX12_voice_45 rfl ?_
      refine gq_iload_n (pc := 46) dX12_voice_46 rfl ?_
      refine gq_iconst (pc := 47) dX12_voice_47 kc_1 ?_
      refine gq_rV2i (pc := 48) dX12_voice_48 cv_X12_69 sh_76 (k_its he kl_1 (by omega)) ⟨by decide, by decide⟩ rfl rfl (Nat.le_of_ble_eq_true rfl) ?_
      refine qm_puti (pc := 51) dX12_voice_51 fp_X12_237_12 sh_76 rfl ?_
      refine gq_tog (g := ge_m g r (upd (upd (upd (upd f 23 4) 24 e) 25 (p_e r j 1)) 22 (nI 0))) (by rw [p_uc (i := 22) (j := 23) (by decide), p_uc (i := 22) (j := 24) (by decide), p_uc (i := 22) (j := 25) (by decide)]; rfl) ?_
      refine gq_iload_n (pc := 54) dX12_voice_54 rfl ?_
      refine gq_tabI (pc := 55) (off := 25) 80 dX12_voice_55 (by decide) (by decide) (by decide) (by decide) ?_
      refine gq_aload_n (pc := 80) dX12_voice_80 rfl ?_
      refine gq_aload_n (pc := 81) dX12_voice_81 rfl ?_
      refine qw_get (v := 4) (pc := 82) dX12_voice_82 fl_X12_243_12 sh_76 rfl rfl (by decide) ?_
      refine gq_iload_n (pc := 85) dX12_voice_85 rfl ?_
      refine gq_rV2i (pc := 86) dX12_voice_86 cv_X12_234 sh_76 (m_sees_4 (f := (upd (upd (upd f 23 4) 24 e) 25 (p_e r j 1))) (k := 0) (by decide) rfl rfl) ⟨by decide, by decide⟩ rfl rfl (Nat.le_of_ble_eq_true rfl) ?_
      exact gq_iret (pc := 89) rfl dX12_voice_89 ⟨rfl, rfl⟩
    · exact absurd h_14 (show ¬ p_in 0 0 3 = 0 by decide)
set_option maxHeartbeats 400000 in
theorem m_voice_4_1 {e v : Int32} {j : Nat} (he : e = nI j) (hj : j < E) (hE : E ≤ 8) (e2 : r 2 = nI E) (ek : p_e r j 0 = 4) : ge_N X ge_SH YX12_voice 8 [.ref (ge_ad X.1 76), .int e, .int 1, .int v] (ge_m g r f) (some (.int (((v + e) * 3) * 2))) (ge_m (p_addm g 0 [11, 20, 10]) r (upd (upd (upd (upd f 23 4) 24 e) 25 (p_e r j 1)) 22 (nI (0 + 3)))) := by
  refine gq_ofB (l := [(0, .ref (ge_ad X.1 76)), (1, .int e), (2, .int 1), (3, .int v)]) (by decide) (Nat.le_of_ble_eq_true rfl) rfl ?_
  refine gq_aload_n (pc := 0) dX12_voice_0 rfl ?_
  refine gq_iload_n (pc := 1) dX12_voice_1 rfl ?_
  refine gq_rV1i (pc := 2) dX12_voice_2 cv_X12_66 sh_76 (k_isEye _) ⟨by decide, by decide⟩ rfl rfl (Nat.le_of_ble_eq_true rfl) ?_
  refine gq_if_eq (pc := 5) 17 dX12_voice_5 (by decide) (fun h_5 => ?_) (fun h_5 => ?_)
  · exact absurd h_5 (p_in_E he hj (by omega) e2)
  · refine gq_iload_n (pc := 8) dX12_voice_8 rfl ?_
    refine gq_iconst (pc := 9) dX12_voice_9 kc_0 ?_
    refine gq_iconst (pc := 10) dX12_voice_10 kc_3 ?_
    refine gq_rS3i (pc := 11) dX12_voice_11 cs_X12_41 (k_in _ _ _) ⟨by decide, by decide⟩ (Nat.le_of_ble_eq_true rfl) ?_
    refine gq_if_ne (pc := 14) 24 dX12_voice_14 (by decide) (fun h_14 => ?_) (fun h_14 => ?_)
    · refine gq_aload_n (pc := 24) dX12_voice_24 rfl ?_
      refine gq_iconst (pc := 25) dX12_voice_25 kc_0 ?_
      refine qm_puti (pc := 26) dX12_voice_26 fp_X12_225_12 sh_76 rfl ?_
      refine gq_aload_n (pc := 29) dX12_voice_29 rfl ?_
      refine gq_aload_n (pc := 30) dX12_voice_30 rfl ?_
      refine gq_iload_n (pc := 31) dX12_voice_31 rfl ?_
      refine gq_iconst (pc := 32) dX12_voice_32 kc_0 ?_
      refine gq_rV2i (pc := 33) dX12_voice_33 cv_X12_69 sh_76 (k_its he kl_0 (by omega)) ⟨by decide, by decide⟩ rfl rfl (Nat.le_of_ble_eq_true rfl) ?_
      rw [ek]
      refine qm_puti (pc := 36) dX12_voice_36 fp_X12_243_12 sh_76 rfl ?_
      refine gq_aload_n (pc := 39) dX12_voice_39 rfl ?_
      refine gq_iload_n (pc := 40) dX12_voice_40 rfl ?_
      refine qm_puti (pc := 41) dX12_voice_41 fp_X12_231_12 sh_76 rfl ?_
      refine gq_aload_n (pc := 44) dX12_voice_44 rfl ?_
      refine gq_aload_n (pc := 45) dX12_voice_45 rfl ?_
      refine gq_iload_n (pc := 46) dX12_voice_46 rfl ?_
      refine gq_iconst (pc := 47) dX12_voice_47 kc_1 ?_
      refine gq_rV2i (pc := 48) dX12_voice_48 cv_X12_69 sh_76 (k_its he kl_1 (by omega)) ⟨by decide, by decide⟩ rfl rfl (Nat.le_of_ble_eq_true rfl) ?_
      refine qm_puti (pc := 51) dX12_voice_51 fp_X12_237_12 sh_76 rfl ?_
      refine gq_tog (g := ge_m g r (upd (upd (upd (upd f 23 4) 24 e) 25 (p_e r j 1)) 22 (nI 0))) (by rw [p_uc (i := 22) (j := 23) (by decide), p_uc (i := 22) (j := 24) (by decide), p_uc (i := 22) (j := 25) (by decide)]; rfl) ?_
      refine gq_iload_n (pc := 54) dX12_voice_54 rfl ?_
      refine gq_tabI (pc := 55) (off := 35) 90 dX12_voice_55 (by decide) (by decide) (by decide) (by decide) ?_
      refine gq_aload_n (pc := 90) dX12_voice_90 rfl ?_
      refine gq_aload_n (pc := 91) dX12_voice_91 rfl ?_
      refine qw_get (v := 4) (pc := 92) dX12_voice_92 fl_X12_243_12 sh_76 rfl rfl (by decide) ?_
      refine gq_iload_n (pc := 95) dX12_voice_95 rfl ?_
      refine gq_rV2i (pc := 96) dX12_voice_96 cv_X12_246 sh_76 (m_looks_4_4 (f := (upd (upd (upd f 23 4) 24 e) 25 (p_e r j 1))) (k := 0) (by decide) rfl rfl rfl) ⟨by decide, by decide⟩ rfl rfl (Nat.le_of_ble_eq_true rfl) ?_
      exact gq_iret (pc := 99) rfl dX12_voice_99 ⟨rfl, rfl⟩
    · exact absurd h_14 (show ¬ p_in 1 0 3 = 0 by decide)
set_option maxHeartbeats 400000 in
theorem m_voice_4_2 {e v : Int32} {j : Nat} (he : e = nI j) (hj : j < E) (hE : E ≤ 8) (e2 : r 2 = nI E) (ek : p_e r j 0 = 4) : ge_N X ge_SH YX12_voice 5 [.ref (ge_ad X.1 76), .int e, .int 2, .int v] (ge_m g r f) (some (.int (v - p_e r j 1))) (ge_m (p_addm g 0 [12]) r (upd (upd (upd (upd f 23 4) 24 e) 25 (p_e r j 1)) 22 (nI (0 + 1)))) := by
  refine gq_ofB (l := [(0, .ref (ge_ad X.1 76)), (1, .int e), (2, .int 2), (3, .int v)]) (by decide) (Nat.le_of_ble_eq_true rfl) rfl ?_
  refine gq_aload_n (pc := 0) dX12_voice_0 rfl ?_
  refine gq_iload_n (pc := 1) dX12_voice_1 rfl ?_
  refine gq_rV1i (pc := 2) dX12_voice_2 cv_X12_66 sh_76 (k_isEye _) ⟨by decide, by decide⟩ rfl rfl (Nat.le_of_ble_eq_true rfl) ?_
  refine gq_if_eq (pc := 5) 17 dX12_voice_5 (by decide) (fun h_5 => ?_) (fun h_5 => ?_)
  · exact absurd h_5 (p_in_E he hj (by omega) e2)
  · refine gq_iload_n (pc := 8) dX12_voice_8 rfl ?_
    refine gq_iconst (pc := 9) dX12_voice_9 kc_0 ?_
    refine gq_iconst (pc := 10) dX12_voice_10 kc_3 ?_
    refine gq_rS3i (pc := 11) dX12_voice_11 cs_X12_41 (k_in _ _ _) ⟨by decide, by decide⟩ (Nat.le_of_ble_eq_true rfl) ?_
    refine gq_if_ne (pc := 14) 24 dX12_voice_14 (by decide) (fun h_14 => ?_) (fun h_14 => ?_)
    · refine gq_aload_n (pc := 24) dX12_voice_24 rfl ?_
      refine gq_iconst (pc := 25) dX12_voice_25 kc_0 ?_
      refine qm_puti (pc := 26) dX12_voice_26 fp_X12_225_12 sh_76 rfl ?_
      refine gq_aload_n (pc := 29) dX12_voice_29 rfl ?_
      refine gq_aload_n (pc := 30) dX12_voice_30 rfl ?_
      refine gq_iload_n (pc := 31) dX12_voice_31 rfl ?_
      refine gq_iconst (pc := 32) dX12_voice_32 kc_0 ?_
      refine gq_rV2i (pc := 33) dX12_voice_33 cv_X12_69 sh_76 (k_its he kl_0 (by omega)) ⟨by decide, by decide⟩ rfl rfl (Nat.le_of_ble_eq_true rfl) ?_
      rw [ek]
      refine qm_puti (pc := 36) dX12_voice_36 fp_X12_243_12 sh_76 rfl ?_
      refine gq_aload_n (pc := 39) dX12_voice_39 rfl ?_
      refine gq_iload_n (pc := 40) dX12_voice_40 rfl ?_
      refine qm_puti (pc := 41) dX12_voice_41 fp_X12_231_12 sh_76 rfl ?_
      refine gq_aload_n (pc := 44) dX12_voice_44 rfl ?_
      refine gq_aload_n (pc := 45) dX12_voice_45 rfl ?_
      refine gq_iload_n (pc := 46) dX12_voice_46 rfl ?_
      refine gq_iconst (pc := 47) dX12_voice_47 kc_1 ?_
      refine gq_rV2i (pc := 48) dX12_voice_48 cv_X12_69 sh_76 (k_its he kl_1 (by omega)) ⟨by decide, by decide⟩ rfl rfl (Nat.le_of_ble_eq_true rfl) ?_
      refine qm_puti (pc := 51) dX12_voice_51 fp_X12_237_12 sh_76 rfl ?_
      refine gq_tog (g := ge_m g r (upd (upd (upd (upd f 23 4) 24 e) 25 (p_e r j 1)) 22 (nI 0))) (by rw [p_uc (i := 22) (j := 23) (by decide), p_uc (i := 22) (j := 24) (by decide), p_uc (i := 22) (j := 25) (by decide)]; rfl) ?_
      refine gq_iload_n (pc := 54) dX12_voice_54 rfl ?_
      refine gq_tabI (pc := 55) (off := 45) 100 dX12_voice_55 (by decide) (by decide) (by decide) (by decide) ?_
      refine gq_aload_n (pc := 100) dX12_voice_100 rfl ?_
      refine gq_aload_n (pc := 101) dX12_voice_101 rfl ?_
      refine qw_get (v := 4) (pc := 102) dX12_voice_102 fl_X12_243_12 sh_76 rfl rfl (by decide) ?_
      refine gq_iload_n (pc := 105) dX12_voice_105 rfl ?_
      refine gq_rV2i (pc := 106) dX12_voice_106 cv_X12_240 sh_76 (m_blinks_4 (f := (upd (upd (upd f 23 4) 24 e) 25 (p_e r j 1))) (k := 0) (by decide) rfl rfl) ⟨by decide, by decide⟩ rfl rfl (Nat.le_of_ble_eq_true rfl) ?_
      exact gq_iret (pc := 109) rfl dX12_voice_109 ⟨rfl, rfl⟩
    · exact absurd h_14 (show ¬ p_in 2 0 3 = 0 by decide)
set_option maxHeartbeats 400000 in
theorem m_voice_4_3 {e v : Int32} {j : Nat} (he : e = nI j) (hj : j < E) (hE : E ≤ 8) (e2 : r 2 = nI E) (ek : p_e r j 0 = 4) : ge_N X ge_SH YX12_voice 11 [.ref (ge_ad X.1 76), .int e, .int 3, .int v] (ge_m g r f) (some (.int (((((v + e) * 3) * 2) ^^^ (v - p_e r j 1)) - ((2 + e) * 3)))) (ge_m (p_addm g 0 [50, 13, 11, 20, 10, 12, 20, 10]) r (upd (upd (upd (upd f 23 4) 24 e) 25 (p_e r j 1)) 22 (nI (0 + 8)))) := by
  refine gq_ofB (l := [(0, .ref (ge_ad X.1 76)), (1, .int e), (2, .int 3), (3, .int v)]) (by decide) (Nat.le_of_ble_eq_true rfl) rfl ?_
  refine gq_aload_n (pc := 0) dX12_voice_0 rfl ?_
  refine gq_iload_n (pc := 1) dX12_voice_1 rfl ?_
  refine gq_rV1i (pc := 2) dX12_voice_2 cv_X12_66 sh_76 (k_isEye _) ⟨by decide, by decide⟩ rfl rfl (Nat.le_of_ble_eq_true rfl) ?_
  refine gq_if_eq (pc := 5) 17 dX12_voice_5 (by decide) (fun h_5 => ?_) (fun h_5 => ?_)
  · exact absurd h_5 (p_in_E he hj (by omega) e2)
  · refine gq_iload_n (pc := 8) dX12_voice_8 rfl ?_
    refine gq_iconst (pc := 9) dX12_voice_9 kc_0 ?_
    refine gq_iconst (pc := 10) dX12_voice_10 kc_3 ?_
    refine gq_rS3i (pc := 11) dX12_voice_11 cs_X12_41 (k_in _ _ _) ⟨by decide, by decide⟩ (Nat.le_of_ble_eq_true rfl) ?_
    refine gq_if_ne (pc := 14) 24 dX12_voice_14 (by decide) (fun h_14 => ?_) (fun h_14 => ?_)
    · refine gq_aload_n (pc := 24) dX12_voice_24 rfl ?_
      refine gq_iconst (pc := 25) dX12_voice_25 kc_0 ?_
      refine qm_puti (pc := 26) dX12_voice_26 fp_X12_225_12 sh_76 rfl ?_
      refine gq_aload_n (pc := 29) dX12_voice_29 rfl ?_
      refine gq_aload_n (pc := 30) dX12_voice_30 rfl ?_
      refine gq_iload_n (pc := 31) dX12_voice_31 rfl ?_
      refine gq_iconst (pc := 32) dX12_voice_32 kc_0 ?_
      refine gq_rV2i (pc := 33) dX12_voice_33 cv_X12_69 sh_76 (k_its he kl_0 (by omega)) ⟨by decide, by decide⟩ rfl rfl (Nat.le_of_ble_eq_true rfl) ?_
      rw [ek]
      refine qm_puti (pc := 36) dX12_voice_36 fp_X12_243_12 sh_76 rfl ?_
      refine gq_aload_n (pc := 39) dX12_voice_39 rfl ?_
      refine gq_iload_n (pc := 40) dX12_voice_40 rfl ?_
      refine qm_puti (pc := 41) dX12_voice_41 fp_X12_231_12 sh_76 rfl ?_
      refine gq_aload_n (pc := 44) dX12_voice_44 rfl ?_
      refine gq_aload_n (pc := 45) dX12_voice_45 rfl ?_
      refine gq_iload_n (pc := 46) dX12_voice_46 rfl ?_
      refine gq_iconst (pc := 47) dX12_voice_47 kc_1 ?_
      refine gq_rV2i (pc := 48) dX12_voice_48 cv_X12_69 sh_76 (k_its he kl_1 (by omega)) ⟨by decide, by decide⟩ rfl rfl (Nat.le_of_ble_eq_true rfl) ?_
      refine qm_puti (pc := 51) dX12_voice_51 fp_X12_237_12 sh_76 rfl ?_
      refine gq_tog (g := ge_m g r (upd (upd (upd (upd f 23 4) 24 e) 25 (p_e r j 1)) 22 (nI 0))) (by rw [p_uc (i := 22) (j := 23) (by decide), p_uc (i := 22) (j := 24) (by decide), p_uc (i := 22) (j := 25) (by decide)]; rfl) ?_
      refine gq_iload_n (pc := 54) dX12_voice_54 rfl ?_
      refine gq_tabO (pc := 55) 110 dX12_voice_55 (by decide) (by decide) ?_
      refine gq_aload_n (pc := 110) dX12_voice_110 rfl ?_
      refine gq_aload_n (pc := 111) dX12_voice_111 rfl ?_
      refine qw_get (v := 4) (pc := 112) dX12_voice_112 fl_X12_243_12 sh_76 rfl rfl (by decide) ?_
      refine gq_iload_n (pc := 115) dX12_voice_115 rfl ?_
      refine gq_rV2i (pc := 116) dX12_voice_116 cv_X12_249 sh_76 (m_tells_4_4 (f := (upd (upd (upd f 23 4) 24 e) 25 (p_e r j 1))) (k := 0) (by decide) rfl rfl rfl) ⟨by decide, by decide⟩ rfl rfl (Nat.le_of_ble_eq_true rfl) ?_
      exact gq_iret (pc := 119) rfl dX12_voice_119 ⟨rfl, rfl⟩
    · exact absurd h_14 (show ¬ p_in 3 0 3 = 0 by decide)
set_option maxHeartbeats 400000 in
theorem m_voice_5_0 {e v : Int32} {j : Nat} (he : e = nI j) (hj : j < E) (hE : E ≤ 8) (e2 : r 2 = nI E) (ek : p_e r j 0 = 5) : ge_N X ge_SH YX12_voice 5 [.ref (ge_ad X.1 76), .int e, .int 0, .int v] (ge_m g r f) (some (.int (v + e))) (ge_m (p_addm g 0 [10]) r (upd (upd (upd (upd f 23 5) 24 e) 25 (p_e r j 1)) 22 (nI (0 + 1)))) := by
  refine gq_ofB (l := [(0, .ref (ge_ad X.1 76)), (1, .int e), (2, .int 0), (3, .int v)]) (by decide) (Nat.le_of_ble_eq_true rfl) rfl ?_
  refine gq_aload_n (pc := 0) dX12_voice_0 rfl ?_
  refine gq_iload_n (pc := 1) dX12_voice_1 rfl ?_
  refine gq_rV1i (pc := 2) dX12_voice_2 cv_X12_66 sh_76 (k_isEye _) ⟨by decide, by decide⟩ rfl rfl (Nat.le_of_ble_eq_true rfl) ?_
  refine gq_if_eq (pc := 5) 17 dX12_voice_5 (by decide) (fun h_5 => ?_) (fun h_5 => ?_)
  · exact absurd h_5 (p_in_E he hj (by omega) e2)
  · refine gq_iload_n (pc := 8) dX12_voice_8 rfl ?_
    refine gq_iconst (pc := 9) dX12_voice_9 kc_0 ?_
    refine gq_iconst (pc := 10) dX12_voice_10 kc_3 ?_
    refine gq_rS3i (pc := 11) dX12_voice_11 cs_X12_41 (k_in _ _ _) ⟨by decide, by decide⟩ (Nat.le_of_ble_eq_true rfl) ?_
    refine gq_if_ne (pc := 14) 24 dX12_voice_14 (by decide) (fun h_14 => ?_) (fun h_14 => ?_)
    · refine gq_aload_n (pc := 24) dX12_voice_24 rfl ?_
      refine gq_iconst (pc := 25) dX12_voice_25 kc_0 ?_
      refine qm_puti (pc := 26) dX12_voice_26 fp_X12_225_12 sh_76 rfl ?_
      refine gq_aload_n (pc := 29) dX12_voice_29 rfl ?_
      refine gq_aload_n (pc := 30) dX12_voice_30 rfl ?_
      refine gq_iload_n (pc := 31) dX12_voice_31 rfl ?_
      refine gq_iconst (pc := 32) dX12_voice_32 kc_0 ?_
      refine gq_rV2i (pc := 33) dX12_voice_33 cv_X12_69 sh_76 (k_its he kl_0 (by omega)) ⟨by decide, by decide⟩ rfl rfl (Nat.le_of_ble_eq_true rfl) ?_
      rw [ek]
      refine qm_puti (pc := 36) dX12_voice_36 fp_X12_243_12 sh_76 rfl ?_
      refine gq_aload_n (pc := 39) dX12_voice_39 rfl ?_
      refine gq_iload_n (pc := 40) dX12_voice_40 rfl ?_
      refine qm_puti (pc := 41) dX12_voice_41 fp_X12_231_12 sh_76 rfl ?_
      refine gq_aload_n (pc := 44) dX12_voice_44 rfl ?_
      refine gq_aload_n (pc := 45) dX12_voice_45 rfl ?_
      refine gq_iload_n (pc := 46) dX12_voice_46 rfl ?_
      refine gq_iconst (pc := 47) dX12_voice_47 kc_1 ?_
      refine gq_rV2i (pc := 48) dX12_voice_48 cv_X12_69 sh_76 (k_its he kl_1 (by omega)) ⟨by decide, by decide⟩ rfl rfl (Nat.le_of_ble_eq_true rfl) ?_
      refine qm_puti (pc := 51) dX12_voice_51 fp_X12_237_12 sh_76 rfl ?_
      refine gq_tog (g := ge_m g r (upd (upd (upd (upd f 23 5) 24 e) 25 (p_e r j 1)) 22 (nI 0))) (by rw [p_uc (i := 22) (j := 23) (by decide), p_uc (i := 22) (j := 24) (by decide), p_uc (i := 22) (j := 25) (by decide)]; rfl) ?_
      refine gq_iload_n (pc := 54) dX12_voice_54 rfl ?_
      refine gq_tabI (pc := 55) (off := 25) 80 dX12_voice_55 (by decide) (by decide) (by decide) (by decide) ?_
      refine gq_aload_n (pc := 80) dX12_voice_80 rfl ?_
      refine gq_aload_n (pc := 81) dX12_voice_81 rfl ?_
      refine qw_get (v := 5) (pc := 82) dX12_voice_82 fl_X12_243_12 sh_76 rfl rfl (by decide) ?_
      refine gq_iload_n (pc := 85) dX12_voice_85 rfl ?_
      refine gq_rV2i (pc := 86) dX12_voice_86 cv_X12_234 sh_76 (m_sees_5 (f := (upd (upd (upd f 23 5) 24 e) 25 (p_e r j 1))) (k := 0) (by decide) rfl rfl) ⟨by decide, by decide⟩ rfl rfl (Nat.le_of_ble_eq_true rfl) ?_
      exact gq_iret (pc := 89) rfl dX12_voice_89 ⟨rfl, rfl⟩
    · exact absurd h_14 (show ¬ p_in 0 0 3 = 0 by decide)
set_option maxHeartbeats 400000 in
theorem m_voice_5_1 {e v : Int32} {j : Nat} (he : e = nI j) (hj : j < E) (hE : E ≤ 8) (e2 : r 2 = nI E) (ek : p_e r j 0 = 5) : ge_N X ge_SH YX12_voice 8 [.ref (ge_ad X.1 76), .int e, .int 1, .int v] (ge_m g r f) (some (.int ((((v + 1) + e) * 2) - (1 - p_e r j 1)))) (ge_m (p_addm g 0 [60, 30, 11, 10, 12]) r (upd (upd (upd (upd f 23 5) 24 e) 25 (p_e r j 1)) 22 (nI (0 + 5)))) := by
  refine gq_ofB (l := [(0, .ref (ge_ad X.1 76)), (1, .int e), (2, .int 1), (3, .int v)]) (by decide) (Nat.le_of_ble_eq_true rfl) rfl ?_
  refine gq_aload_n (pc := 0) dX12_voice_0 rfl ?_
  refine gq_iload_n (pc := 1) dX12_voice_1 rfl ?_
  refine gq_rV1i (pc := 2) dX12_voice_2 cv_X12_66 sh_76 (k_isEye _) ⟨by decide, by decide⟩ rfl rfl (Nat.le_of_ble_eq_true rfl) ?_
  refine gq_if_eq (pc := 5) 17 dX12_voice_5 (by decide) (fun h_5 => ?_) (fun h_5 => ?_)
  · exact absurd h_5 (p_in_E he hj (by omega) e2)
  · refine gq_iload_n (pc := 8) dX12_voice_8 rfl ?_
    refine gq_iconst (pc := 9) dX12_voice_9 kc_0 ?_
    refine gq_iconst (pc := 10) dX12_voice_10 kc_3 ?_
    refine gq_rS3i (pc := 11) dX12_voice_11 cs_X12_41 (k_in _ _ _) ⟨by decide, by decide⟩ (Nat.le_of_ble_eq_true rfl) ?_
    refine gq_if_ne (pc := 14) 24 dX12_voice_14 (by decide) (fun h_14 => ?_) (fun h_14 => ?_)
    · refine gq_aload_n (pc := 24) dX12_voice_24 rfl ?_
      refine gq_iconst (pc := 25) dX12_voice_25 kc_0 ?_
      refine qm_puti (pc := 26) dX12_voice_26 fp_X12_225_12 sh_76 rfl ?_
      refine gq_aload_n (pc := 29) dX12_voice_29 rfl ?_
      refine gq_aload_n (pc := 30) dX12_voice_30 rfl ?_
      refine gq_iload_n (pc := 31) dX12_voice_31 rfl ?_
      refine gq_iconst (pc := 32) dX12_voice_32 kc_0 ?_
      refine gq_rV2i (pc := 33) dX12_voice_33 cv_X12_69 sh_76 (k_its he kl_0 (by omega)) ⟨by decide, by decide⟩ rfl rfl (Nat.le_of_ble_eq_true rfl) ?_
      rw [ek]
      refine qm_puti (pc := 36) dX12_voice_36 fp_X12_243_12 sh_76 rfl ?_
      refine gq_aload_n (pc := 39) dX12_voice_39 rfl ?_
      refine gq_iload_n (pc := 40) dX12_voice_40 rfl ?_
      refine qm_puti (pc := 41) dX12_voice_41 fp_X12_231_12 sh_76 rfl ?_
      refine gq_aload_n (pc := 44) dX12_voice_44 rfl ?_
      refine gq_aload_n (pc := 45) dX12_voice_45 rfl ?_
      refine gq_iload_n (pc := 46) dX12_voice_46 rfl ?_
      refine gq_iconst (pc := 47) dX12_voice_47 kc_1 ?_
      refine gq_rV2i (pc := 48) dX12_voice_48 cv_X12_69 sh_76 (k_its he kl_1 (by omega)) ⟨by decide, by decide⟩ rfl rfl (Nat.le_of_ble_eq_true rfl) ?_
      refine qm_puti (pc := 51) dX12_voice_51 fp_X12_237_12 sh_76 rfl ?_
      refine gq_tog (g := ge_m g r (upd (upd (upd (upd f 23 5) 24 e) 25 (p_e r j 1)) 22 (nI 0))) (by rw [p_uc (i := 22) (j := 23) (by decide), p_uc (i := 22) (j := 24) (by decide), p_uc (i := 22) (j := 25) (by decide)]; rfl) ?_
      refine gq_iload_n (pc := 54) dX12_voice_54 rfl ?_
      refine gq_tabI (pc := 55) (off := 35) 90 dX12_voice_55 (by decide) (by decide) (by decide) (by decide) ?_
      refine gq_aload_n (pc := 90) dX12_voice_90 rfl ?_
      refine gq_aload_n (pc := 91) dX12_voice_91 rfl ?_
      refine qw_get (v := 5) (pc := 92) dX12_voice_92 fl_X12_243_12 sh_76 rfl rfl (by decide) ?_
      refine gq_iload_n (pc := 95) dX12_voice_95 rfl ?_
      refine gq_rV2i (pc := 96) dX12_voice_96 cv_X12_246 sh_76 (m_looks_5_5 (f := (upd (upd (upd f 23 5) 24 e) 25 (p_e r j 1))) (k := 0) (by decide) rfl rfl rfl) ⟨by decide, by decide⟩ rfl rfl (Nat.le_of_ble_eq_true rfl) ?_
      exact gq_iret (pc := 99) rfl dX12_voice_99 ⟨rfl, rfl⟩
    · exact absurd h_14 (show ¬ p_in 1 0 3 = 0 by decide)
set_option maxHeartbeats 400000 in
theorem m_voice_5_2 {e v : Int32} {j : Nat} (he : e = nI j) (hj : j < E) (hE : E ≤ 8) (e2 : r 2 = nI E) (ek : p_e r j 0 = 5) : ge_N X ge_SH YX12_voice 5 [.ref (ge_ad X.1 76), .int e, .int 2, .int v] (ge_m g r f) (some (.int (v - p_e r j 1))) (ge_m (p_addm g 0 [12]) r (upd (upd (upd (upd f 23 5) 24 e) 25 (p_e r j 1)) 22 (nI (0 + 1)))) := by
  refine gq_ofB (l := [(0, .ref (ge_ad X.1 76)), (1, .int e), (2, .int 2), (3, .int v)]) (by decide) (Nat.le_of_ble_eq_true rfl) rfl ?_
  refine gq_aload_n (pc := 0) dX12_voice_0 rfl ?_
  refine gq_iload_n (pc := 1) dX12_voice_1 rfl ?_
  refine gq_rV1i (pc := 2) dX12_voice_2 cv_X12_66 sh_76 (k_isEye _) ⟨by decide, by decide⟩ rfl rfl (Nat.le_of_ble_eq_true rfl) ?_
  refine gq_if_eq (pc := 5) 17 dX12_voice_5 (by decide) (fun h_5 => ?_) (fun h_5 => ?_)
  · exact absurd h_5 (p_in_E he hj (by omega) e2)
  · refine gq_iload_n (pc := 8) dX12_voice_8 rfl ?_
    refine gq_iconst (pc := 9) dX12_voice_9 kc_0 ?_
    refine gq_iconst (pc := 10) dX12_voice_10 kc_3 ?_
    refine gq_rS3i (pc := 11) dX12_voice_11 cs_X12_41 (k_in _ _ _) ⟨by decide, by decide⟩ (Nat.le_of_ble_eq_true rfl) ?_
    refine gq_if_ne (pc := 14) 24 dX12_voice_14 (by decide) (fun h_14 => ?_) (fun h_14 => ?_)
    · refine gq_aload_n (pc := 24) dX12_voice_24 rfl ?_
      refine gq_iconst (pc := 25) dX12_voice_25 kc_0 ?_
      refine qm_puti (pc := 26) dX12_voice_26 fp_X12_225_12 sh_76 rfl ?_
      refine gq_aload_n (pc := 29) dX12_voice_29 rfl ?_
      refine gq_aload_n (pc := 30) dX12_voice_30 rfl ?_
      refine gq_iload_n (pc := 31) dX12_voice_31 rfl ?_
      refine gq_iconst (pc := 32) dX12_voice_32 kc_0 ?_
      refine gq_rV2i (pc := 33) dX12_voice_33 cv_X12_69 sh_76 (k_its he kl_0 (by omega)) ⟨by decide, by decide⟩ rfl rfl (Nat.le_of_ble_eq_true rfl) ?_
      rw [ek]
      refine qm_puti (pc := 36) dX12_voice_36 fp_X12_243_12 sh_76 rfl ?_
      refine gq_aload_n (pc := 39) dX12_voice_39 rfl ?_
      refine gq_iload_n (pc := 40) dX12_voice_40 rfl ?_
      refine qm_puti (pc := 41) dX12_voice_41 fp_X12_231_12 sh_76 rfl ?_
      refine gq_aload_n (pc := 44) dX12_voice_44 rfl ?_
      refine gq_aload_n (pc := 45) dX12_voice_45 rfl ?_
      refine gq_iload_n (pc := 46) dX12_voice_46 rfl ?_
      refine gq_iconst (pc := 47) dX12_voice_47 kc_1 ?_
      refine gq_rV2i (pc := 48) dX12_voice_48 cv_X12_69 sh_76 (k_its he kl_1 (by omega)) ⟨by decide, by decide⟩ rfl rfl (Nat.le_of_ble_eq_true rfl) ?_
      refine qm_puti (pc := 51) dX12_voice_51 fp_X12_237_12 sh_76 rfl ?_
      refine gq_tog (g := ge_m g r (upd (upd (upd (upd f 23 5) 24 e) 25 (p_e r j 1)) 22 (nI 0))) (by rw [p_uc (i := 22) (j := 23) (by decide), p_uc (i := 22) (j := 24) (by decide), p_uc (i := 22) (j := 25) (by decide)]; rfl) ?_
      refine gq_iload_n (pc := 54) dX12_voice_54 rfl ?_
      refine gq_tabI (pc := 55) (off := 45) 100 dX12_voice_55 (by decide) (by decide) (by decide) (by decide) ?_
      refine gq_aload_n (pc := 100) dX12_voice_100 rfl ?_
      refine gq_aload_n (pc := 101) dX12_voice_101 rfl ?_
      refine qw_get (v := 5) (pc := 102) dX12_voice_102 fl_X12_243_12 sh_76 rfl rfl (by decide) ?_
      refine gq_iload_n (pc := 105) dX12_voice_105 rfl ?_
      refine gq_rV2i (pc := 106) dX12_voice_106 cv_X12_240 sh_76 (m_blinks_5 (f := (upd (upd (upd f 23 5) 24 e) 25 (p_e r j 1))) (k := 0) (by decide) rfl rfl) ⟨by decide, by decide⟩ rfl rfl (Nat.le_of_ble_eq_true rfl) ?_
      exact gq_iret (pc := 109) rfl dX12_voice_109 ⟨rfl, rfl⟩
    · exact absurd h_14 (show ¬ p_in 2 0 3 = 0 by decide)
set_option maxHeartbeats 400000 in
theorem m_voice_5_3 {e v : Int32} {j : Nat} (he : e = nI j) (hj : j < E) (hE : E ≤ 8) (e2 : r 2 = nI E) (ek : p_e r j 0 = 5) : ge_N X ge_SH YX12_voice 11 [.ref (ge_ad X.1 76), .int e, .int 3, .int v] (ge_m g r f) (some (.int (((((v + 1) + e) * 2) - (1 - p_e r j 1)) ^^^ (v - p_e r j 1)))) (ge_m (p_addm g 0 [13, 60, 30, 11, 10, 12, 12]) r (upd (upd (upd (upd f 23 5) 24 e) 25 (p_e r j 1)) 22 (nI (0 + 7)))) := by
  refine gq_ofB (l := [(0, .ref (ge_ad X.1 76)), (1, .int e), (2, .int 3), (3, .int v)]) (by decide) (Nat.le_of_ble_eq_true rfl) rfl ?_
  refine gq_aload_n (pc := 0) dX12_voice_0 rfl ?_
  refine gq_iload_n (pc := 1) dX12_voice_1 rfl ?_
  refine gq_rV1i (pc := 2) dX12_voice_2 cv_X12_66 sh_76 (k_isEye _) ⟨by decide, by decide⟩ rfl rfl (Nat.le_of_ble_eq_true rfl) ?_
  refine gq_if_eq (pc := 5) 17 dX12_voice_5 (by decide) (fun h_5 => ?_) (fun h_5 => ?_)
  · exact absurd h_5 (p_in_E he hj (by omega) e2)
  · refine gq_iload_n (pc := 8) dX12_voice_8 rfl ?_
    refine gq_iconst (pc := 9) dX12_voice_9 kc_0 ?_
    refine gq_iconst (pc := 10) dX12_voice_10 kc_3 ?_
    refine gq_rS3i (pc := 11) dX12_voice_11 cs_X12_41 (k_in _ _ _) ⟨by decide, by decide⟩ (Nat.le_of_ble_eq_true rfl) ?_
    refine gq_if_ne (pc := 14) 24 dX12_voice_14 (by decide) (fun h_14 => ?_) (fun h_14 => ?_)
    · refine gq_aload_n (pc := 24) dX12_voice_24 rfl ?_
      refine gq_iconst (pc := 25) dX12_voice_25 kc_0 ?_
      refine qm_puti (pc := 26) dX12_voice_26 fp_X12_225_12 sh_76 rfl ?_
      refine gq_aload_n (pc := 29) dX12_voice_29 rfl ?_
      refine gq_aload_n (pc := 30) dX12_voice_30 rfl ?_
      refine gq_iload_n (pc := 31) dX12_voice_31 rfl ?_
      refine gq_iconst (pc := 32) dX12_voice_32 kc_0 ?_
      refine gq_rV2i (pc := 33) dX12_voice_33 cv_X12_69 sh_76 (k_its he kl_0 (by omega)) ⟨by decide, by decide⟩ rfl rfl (Nat.le_of_ble_eq_true rfl) ?_
      rw [ek]
      refine qm_puti (pc := 36) dX12_voice_36 fp_X12_243_12 sh_76 rfl ?_
      refine gq_aload_n (pc := 39) dX12_voice_39 rfl ?_
      refine gq_iload_n (pc := 40) dX12_voice_40 rfl ?_
      refine qm_puti (pc := 41) dX12_voice_41 fp_X12_231_12 sh_76 rfl ?_
      refine gq_aload_n (pc := 44) dX12_voice_44 rfl ?_
      refine gq_aload_n (pc := 45) dX12_voice_45 rfl ?_
      refine gq_iload_n (pc := 46) dX12_voice_46 rfl ?_
      refine gq_iconst (pc := 47) dX12_voice_47 kc_1 ?_
      refine gq_rV2i (pc := 48) dX12_voice_48 cv_X12_69 sh_76 (k_its he kl_1 (by omega)) ⟨by decide, by decide⟩ rfl rfl (Nat.le_of_ble_eq_true rfl) ?_
      refine qm_puti (pc := 51) dX12_voice_51 fp_X12_237_12 sh_76 rfl ?_
      refine gq_tog (g := ge_m g r (upd (upd (upd (upd f 23 5) 24 e) 25 (p_e r j 1)) 22 (nI 0))) (by rw [p_uc (i := 22) (j := 23) (by decide), p_uc (i := 22) (j := 24) (by decide), p_uc (i := 22) (j := 25) (by decide)]; rfl) ?_
      refine gq_iload_n (pc := 54) dX12_voice_54 rfl ?_
      refine gq_tabO (pc := 55) 110 dX12_voice_55 (by decide) (by decide) ?_
      refine gq_aload_n (pc := 110) dX12_voice_110 rfl ?_
      refine gq_aload_n (pc := 111) dX12_voice_111 rfl ?_
      refine qw_get (v := 5) (pc := 112) dX12_voice_112 fl_X12_243_12 sh_76 rfl rfl (by decide) ?_
      refine gq_iload_n (pc := 115) dX12_voice_115 rfl ?_
      refine gq_rV2i (pc := 116) dX12_voice_116 cv_X12_249 sh_76 (m_tells_5_5 (f := (upd (upd (upd f 23 5) 24 e) 25 (p_e r j 1))) (k := 0) (by decide) rfl rfl rfl) ⟨by decide, by decide⟩ rfl rfl (Nat.le_of_ble_eq_true rfl) ?_
      exact gq_iret (pc := 119) rfl dX12_voice_119 ⟨rfl, rfl⟩
    · exact absurd h_14 (show ¬ p_in 3 0 3 = 0 by decide)
set_option maxHeartbeats 400000 in
theorem m_voice_6_0 {e v : Int32} {j : Nat} (he : e = nI j) (hj : j < E) (hE : E ≤ 8) (e2 : r 2 = nI E) (ek : p_e r j 0 = 6) : ge_N X ge_SH YX12_voice 5 [.ref (ge_ad X.1 76), .int e, .int 0, .int v] (ge_m g r f) (some (.int (v + e))) (ge_m (p_addm g 0 [10]) r (upd (upd (upd (upd f 23 6) 24 e) 25 (p_e r j 1)) 22 (nI (0 + 1)))) := by
  refine gq_ofB (l := [(0, .ref (ge_ad X.1 76)), (1, .int e), (2, .int 0), (3, .int v)]) (by decide) (Nat.le_of_ble_eq_true rfl) rfl ?_
  refine gq_aload_n (pc := 0) dX12_voice_0 rfl ?_
  refine gq_iload_n (pc := 1) dX12_voice_1 rfl ?_
  refine gq_rV1i (pc := 2) dX12_voice_2 cv_X12_66 sh_76 (k_isEye _) ⟨by decide, by decide⟩ rfl rfl (Nat.le_of_ble_eq_true rfl) ?_
  refine gq_if_eq (pc := 5) 17 dX12_voice_5 (by decide) (fun h_5 => ?_) (fun h_5 => ?_)
  · exact absurd h_5 (p_in_E he hj (by omega) e2)
  · refine gq_iload_n (pc := 8) dX12_voice_8 rfl ?_
    refine gq_iconst (pc := 9) dX12_voice_9 kc_0 ?_
    refine gq_iconst (pc := 10) dX12_voice_10 kc_3 ?_
    refine gq_rS3i (pc := 11) dX12_voice_11 cs_X12_41 (k_in _ _ _) ⟨by decide, by decide⟩ (Nat.le_of_ble_eq_true rfl) ?_
    refine gq_if_ne (pc := 14) 24 dX12_voice_14 (by decide) (fun h_14 => ?_) (fun h_14 => ?_)
    · refine gq_aload_n (pc := 24) dX12_voice_24 rfl ?_
      refine gq_iconst (pc := 25) dX12_voice_25 kc_0 ?_
      refine qm_puti (pc := 26) dX12_voice_26 fp_X12_225_12 sh_76 rfl ?_
      refine gq_aload_n (pc := 29) dX12_voice_29 rfl ?_
      refine gq_aload_n (pc := 30) dX12_voice_30 rfl ?_
      refine gq_iload_n (pc := 31) dX12_voice_31 rfl ?_
      refine gq_iconst (pc := 32) dX12_voice_32 kc_0 ?_
      refine gq_rV2i (pc := 33) dX12_voice_33 cv_X12_69 sh_76 (k_its he kl_0 (by omega)) ⟨by decide, by decide⟩ rfl rfl (Nat.le_of_ble_eq_true rfl) ?_
      rw [ek]
      refine qm_puti (pc := 36) dX12_voice_36 fp_X12_243_12 sh_76 rfl ?_
      refine gq_aload_n (pc := 39) dX12_voice_39 rfl ?_
      refine gq_iload_n (pc := 40) dX12_voice_40 rfl ?_
      refine qm_puti (pc := 41) dX12_voice_41 fp_X12_231_12 sh_76 rfl ?_
      refine gq_aload_n (pc := 44) dX12_voice_44 rfl ?_
      refine gq_aload_n (pc := 45) dX12_voice_45 rfl ?_
      refine gq_iload_n (pc := 46) dX12_voice_46 rfl ?_
      refine gq_iconst (pc := 47) dX12_voice_47 kc_1 ?_
      refine gq_rV2i (pc := 48) dX12_voice_48 cv_X12_69 sh_76 (k_its he kl_1 (by omega)) ⟨by decide, by decide⟩ rfl rfl (Nat.le_of_ble_eq_true rfl) ?_
      refine qm_puti (pc := 51) dX12_voice_51 fp_X12_237_12 sh_76 rfl ?_
      refine gq_tog (g := ge_m g r (upd (upd (upd (upd f 23 6) 24 e) 25 (p_e r j 1)) 22 (nI 0))) (by rw [p_uc (i := 22) (j := 23) (by decide), p_uc (i := 22) (j := 24) (by decide), p_uc (i := 22) (j := 25) (by decide)]; rfl) ?_
      refine gq_iload_n (pc := 54) dX12_voice_54 rfl ?_
      refine gq_tabI (pc := 55) (off := 25) 80 dX12_voice_55 (by decide) (by decide) (by decide) (by decide) ?_
      refine gq_aload_n (pc := 80) dX12_voice_80 rfl ?_
      refine gq_aload_n (pc := 81) dX12_voice_81 rfl ?_
      refine qw_get (v := 6) (pc := 82) dX12_voice_82 fl_X12_243_12 sh_76 rfl rfl (by decide) ?_
      refine gq_iload_n (pc := 85) dX12_voice_85 rfl ?_
      refine gq_rV2i (pc := 86) dX12_voice_86 cv_X12_234 sh_76 (m_sees_6 (f := (upd (upd (upd f 23 6) 24 e) 25 (p_e r j 1))) (k := 0) (by decide) rfl rfl) ⟨by decide, by decide⟩ rfl rfl (Nat.le_of_ble_eq_true rfl) ?_
      exact gq_iret (pc := 89) rfl dX12_voice_89 ⟨rfl, rfl⟩
    · exact absurd h_14 (show ¬ p_in 0 0 3 = 0 by decide)
set_option maxHeartbeats 400000 in
theorem m_voice_6_1 {e v : Int32} {j : Nat} (he : e = nI j) (hj : j < E) (hE : E ≤ 8) (e2 : r 2 = nI E) (ek : p_e r j 0 = 6) : ge_N X ge_SH YX12_voice 8 [.ref (ge_ad X.1 76), .int e, .int 1, .int v] (ge_m g r f) (some (.int ((v + e) * 2))) (ge_m (p_addm g 0 [11, 10]) r (upd (upd (upd (upd f 23 6) 24 e) 25 (p_e r j 1)) 22 (nI (0 + 2)))) := by
  refine gq_ofB (l := [(0, .ref (ge_ad X.1 76)), (1, .int e), (2, .int 1), (3, .int v)]) (by decide) (Nat.le_of_ble_eq_true rfl) rfl ?_
  refine gq_aload_n (pc := 0) dX12_voice_0 rfl ?_
  refine gq_iload_n (pc := 1) dX12_voice_1 rfl ?_
  refine gq_rV1i (pc := 2) dX12_voice_2 cv_X12_66 sh_76 (k_isEye _) ⟨by decide, by decide⟩ rfl rfl (Nat.le_of_ble_eq_true rfl) ?_
  refine gq_if_eq (pc := 5) 17 dX12_voice_5 (by decide) (fun h_5 => ?_) (fun h_5 => ?_)
  · exact absurd h_5 (p_in_E he hj (by omega) e2)
  · refine gq_iload_n (pc := 8) dX12_voice_8 rfl ?_
    refine gq_iconst (pc := 9) dX12_voice_9 kc_0 ?_
    refine gq_iconst (pc := 10) dX12_voice_10 kc_3 ?_
    refine gq_rS3i (pc := 11) dX12_voice_11 cs_X12_41 (k_in _ _ _) ⟨by decide, by decide⟩ (Nat.le_of_ble_eq_true rfl) ?_
    refine gq_if_ne (pc := 14) 24 dX12_voice_14 (by decide) (fun h_14 => ?_) (fun h_14 => ?_)
    · refine gq_aload_n (pc := 24) dX12_voice_24 rfl ?_
      refine gq_iconst (pc := 25) dX12_voice_25 kc_0 ?_
      refine qm_puti (pc := 26) dX12_voice_26 fp_X12_225_12 sh_76 rfl ?_
      refine gq_aload_n (pc := 29) dX12_voice_29 rfl ?_
      refine gq_aload_n (pc := 30) dX12_voice_30 rfl ?_
      refine gq_iload_n (pc := 31) dX12_voice_31 rfl ?_
      refine gq_iconst (pc := 32) dX12_voice_32 kc_0 ?_
      refine gq_rV2i (pc := 33) dX12_voice_33 cv_X12_69 sh_76 (k_its he kl_0 (by omega)) ⟨by decide, by decide⟩ rfl rfl (Nat.le_of_ble_eq_true rfl) ?_
      rw [ek]
      refine qm_puti (pc := 36) dX12_voice_36 fp_X12_243_12 sh_76 rfl ?_
      refine gq_aload_n (pc := 39) dX12_voice_39 rfl ?_
      refine gq_iload_n (pc := 40) dX12_voice_40 rfl ?_
      refine qm_puti (pc := 41) dX12_voice_41 fp_X12_231_12 sh_76 rfl ?_
      refine gq_aload_n (pc := 44) dX12_voice_44 rfl ?_
      refine gq_aload_n (pc := 45) dX12_voice_45 rfl ?_
      refine gq_iload_n (pc := 46) dX12_voice_46 rfl ?_
      refine gq_iconst (pc := 47) dX12_voice_47 kc_1 ?_
      refine gq_rV2i (pc := 48) dX12_voice_48 cv_X12_69 sh_76 (k_its he kl_1 (by omega)) ⟨by decide, by decide⟩ rfl rfl (Nat.le_of_ble_eq_true rfl) ?_
      refine qm_puti (pc := 51) dX12_voice_51 fp_X12_237_12 sh_76 rfl ?_
      refine gq_tog (g := ge_m g r (upd (upd (upd (upd f 23 6) 24 e) 25 (p_e r j 1)) 22 (nI 0))) (by rw [p_uc (i := 22) (j := 23) (by decide), p_uc (i := 22) (j := 24) (by decide), p_uc (i := 22) (j := 25) (by decide)]; rfl) ?_
      refine gq_iload_n (pc := 54) dX12_voice_54 rfl ?_
      refine gq_tabI (pc := 55) (off := 35) 90 dX12_voice_55 (by decide) (by decide) (by decide) (by decide) ?_
      refine gq_aload_n (pc := 90) dX12_voice_90 rfl ?_
      refine gq_aload_n (pc := 91) dX12_voice_91 rfl ?_
      refine qw_get (v := 6) (pc := 92) dX12_voice_92 fl_X12_243_12 sh_76 rfl rfl (by decide) ?_
      refine gq_iload_n (pc := 95) dX12_voice_95 rfl ?_
      refine gq_rV2i (pc := 96) dX12_voice_96 cv_X12_246 sh_76 (m_looks_6_6 (f := (upd (upd (upd f 23 6) 24 e) 25 (p_e r j 1))) (k := 0) (by decide) rfl rfl rfl) ⟨by decide, by decide⟩ rfl rfl (Nat.le_of_ble_eq_true rfl) ?_
      exact gq_iret (pc := 99) rfl dX12_voice_99 ⟨rfl, rfl⟩
    · exact absurd h_14 (show ¬ p_in 1 0 3 = 0 by decide)
set_option maxHeartbeats 400000 in
theorem m_voice_6_2 {e v : Int32} {j : Nat} (he : e = nI j) (hj : j < E) (hE : E ≤ 8) (e2 : r 2 = nI E) (ek : p_e r j 0 = 6) : ge_N X ge_SH YX12_voice 5 [.ref (ge_ad X.1 76), .int e, .int 2, .int v] (ge_m g r f) (some (.int ((-(v - p_e r j 1)) ^^^ e))) (ge_m (p_addm g 0 [70, 40, 12]) r (upd (upd (upd (upd f 23 6) 24 e) 25 (p_e r j 1)) 22 (nI (0 + 3)))) := by
  refine gq_ofB (l := [(0, .ref (ge_ad X.1 76)), (1, .int e), (2, .int 2), (3, .int v)]) (by decide) (Nat.le_of_ble_eq_true rfl) rfl ?_
  refine gq_aload_n (pc := 0) dX12_voice_0 rfl ?_
  refine gq_iload_n (pc := 1) dX12_voice_1 rfl ?_
  refine gq_rV1i (pc := 2) dX12_voice_2 cv_X12_66 sh_76 (k_isEye _) ⟨by decide, by decide⟩ rfl rfl (Nat.le_of_ble_eq_true rfl) ?_
  refine gq_if_eq (pc := 5) 17 dX12_voice_5 (by decide) (fun h_5 => ?_) (fun h_5 => ?_)
  · exact absurd h_5 (p_in_E he hj (by omega) e2)
  · refine gq_iload_n (pc := 8) dX12_voice_8 rfl ?_
    refine gq_iconst (pc := 9) dX12_voice_9 kc_0 ?_
    refine gq_iconst (pc := 10) dX12_voice_10 kc_3 ?_
    refine gq_rS3i (pc := 11) dX12_voice_11 cs_X12_41 (k_in _ _ _) ⟨by decide, by decide⟩ (Nat.le_of_ble_eq_true rfl) ?_
    refine gq_if_ne (pc := 14) 24 dX12_voice_14 (by decide) (fun h_14 => ?_) (fun h_14 => ?_)
    · refine gq_aload_n (pc := 24) dX12_voice_24 rfl ?_
      refine gq_iconst (pc := 25) dX12_voice_25 kc_0 ?_
      refine qm_puti (pc := 26) dX12_voice_26 fp_X12_225_12 sh_76 rfl ?_
      refine gq_aload_n (pc := 29) dX12_voice_29 rfl ?_
      refine gq_aload_n (pc := 30) dX12_voice_30 rfl ?_
      refine gq_iload_n (pc := 31) dX12_voice_31 rfl ?_
      refine gq_iconst (pc := 32) dX12_voice_32 kc_0 ?_
      refine gq_rV2i (pc := 33) dX12_voice_33 cv_X12_69 sh_76 (k_its he kl_0 (by omega)) ⟨by decide, by decide⟩ rfl rfl (Nat.le_of_ble_eq_true rfl) ?_
      rw [ek]
      refine qm_puti (pc := 36) dX12_voice_36 fp_X12_243_12 sh_76 rfl ?_
      refine gq_aload_n (pc := 39) dX12_voice_39 rfl ?_
      refine gq_iload_n (pc := 40) dX12_voice_40 rfl ?_
      refine qm_puti (pc := 41) dX12_voice_41 fp_X12_231_12 sh_76 rfl ?_
      refine gq_aload_n (pc := 44) dX12_voice_44 rfl ?_
      refine gq_aload_n (pc := 45) dX12_voice_45 rfl ?_
      refine gq_iload_n (pc := 46) dX12_voice_46 rfl ?_
      refine gq_iconst (pc := 47) dX12_voice_47 kc_1 ?_
      refine gq_rV2i (pc := 48) dX12_voice_48 cv_X12_69 sh_76 (k_its he kl_1 (by omega)) ⟨by decide, by decide⟩ rfl rfl (Nat.le_of_ble_eq_true rfl) ?_
      refine qm_puti (pc := 51) dX12_voice_51 fp_X12_237_12 sh_76 rfl ?_
      refine gq_tog (g := ge_m g r (upd (upd (upd (upd f 23 6) 24 e) 25 (p_e r j 1)) 22 (nI 0))) (by rw [p_uc (i := 22) (j := 23) (by decide), p_uc (i := 22) (j := 24) (by decide), p_uc (i := 22) (j := 25) (by decide)]; rfl) ?_
      refine gq_iload_n (pc := 54) dX12_voice_54 rfl ?_
      refine gq_tabI (pc := 55) (off := 45) 100 dX12_voice_55 (by decide) (by decide) (by decide) (by decide) ?_
      refine gq_aload_n (pc := 100) dX12_voice_100 rfl ?_
      refine gq_aload_n (pc := 101) dX12_voice_101 rfl ?_
      refine qw_get (v := 6) (pc := 102) dX12_voice_102 fl_X12_243_12 sh_76 rfl rfl (by decide) ?_
      refine gq_iload_n (pc := 105) dX12_voice_105 rfl ?_
      refine gq_rV2i (pc := 106) dX12_voice_106 cv_X12_240 sh_76 (m_blinks_6 (f := (upd (upd (upd f 23 6) 24 e) 25 (p_e r j 1))) (k := 0) (by decide) rfl rfl) ⟨by decide, by decide⟩ rfl rfl (Nat.le_of_ble_eq_true rfl) ?_
      exact gq_iret (pc := 109) rfl dX12_voice_109 ⟨rfl, rfl⟩
    · exact absurd h_14 (show ¬ p_in 2 0 3 = 0 by decide)
set_option maxHeartbeats 400000 in
theorem m_voice_6_3 {e v : Int32} {j : Nat} (he : e = nI j) (hj : j < E) (hE : E ≤ 8) (e2 : r 2 = nI E) (ek : p_e r j 0 = 6) : ge_N X ge_SH YX12_voice 11 [.ref (ge_ad X.1 76), .int e, .int 3, .int v] (ge_m g r f) (some (.int (((v + e) * 2) - (((v + e) * 2) ^^^ ((-(v - p_e r j 1)) ^^^ e))))) (ge_m (p_addm g 0 [71, 11, 10, 13, 11, 10, 70, 40, 12]) r (upd (upd (upd (upd f 23 6) 24 e) 25 (p_e r j 1)) 22 (nI (0 + 9)))) := by
  refine gq_ofB (l := [(0, .ref (ge_ad X.1 76)), (1, .int e), (2, .int 3), (3, .int v)]) (by decide) (Nat.le_of_ble_eq_true rfl) rfl ?_
  refine gq_aload_n (pc := 0) dX12_voice_0 rfl ?_
  refine gq_iload_n (pc := 1) dX12_voice_1 rfl ?_
  refine gq_rV1i (pc := 2) dX12_voice_2 cv_X12_66 sh_76 (k_isEye _) ⟨by decide, by decide⟩ rfl rfl (Nat.le_of_ble_eq_true rfl) ?_
  refine gq_if_eq (pc := 5) 17 dX12_voice_5 (by decide) (fun h_5 => ?_) (fun h_5 => ?_)
  · exact absurd h_5 (p_in_E he hj (by omega) e2)
  · refine gq_iload_n (pc := 8) dX12_voice_8 rfl ?_
    refine gq_iconst (pc := 9) dX12_voice_9 kc_0 ?_
    refine gq_iconst (pc := 10) dX12_voice_10 kc_3 ?_
    refine gq_rS3i (pc := 11) dX12_voice_11 cs_X12_41 (k_in _ _ _) ⟨by decide, by decide⟩ (Nat.le_of_ble_eq_true rfl) ?_
    refine gq_if_ne (pc := 14) 24 dX12_voice_14 (by decide) (fun h_14 => ?_) (fun h_14 => ?_)
    · refine gq_aload_n (pc := 24) dX12_voice_24 rfl ?_
      refine gq_iconst (pc := 25) dX12_voice_25 kc_0 ?_
      refine qm_puti (pc := 26) dX12_voice_26 fp_X12_225_12 sh_76 rfl ?_
      refine gq_aload_n (pc := 29) dX12_voice_29 rfl ?_
      refine gq_aload_n (pc := 30) dX12_voice_30 rfl ?_
      refine gq_iload_n (pc := 31) dX12_voice_31 rfl ?_
      refine gq_iconst (pc := 32) dX12_voice_32 kc_0 ?_
      refine gq_rV2i (pc := 33) dX12_voice_33 cv_X12_69 sh_76 (k_its he kl_0 (by omega)) ⟨by decide, by decide⟩ rfl rfl (Nat.le_of_ble_eq_true rfl) ?_
      rw [ek]
      refine qm_puti (pc := 36) dX12_voice_36 fp_X12_243_12 sh_76 rfl ?_
      refine gq_aload_n (pc := 39) dX12_voice_39 rfl ?_
      refine gq_iload_n (pc := 40) dX12_voice_40 rfl ?_
      refine qm_puti (pc := 41) dX12_voice_41 fp_X12_231_12 sh_76 rfl ?_
      refine gq_aload_n (pc := 44) dX12_voice_44 rfl ?_
      refine gq_aload_n (pc := 45) dX12_voice_45 rfl ?_
      refine gq_iload_n (pc := 46) dX12_voice_46 rfl ?_
      refine gq_iconst (pc := 47) dX12_voice_47 kc_1 ?_
      refine gq_rV2i (pc := 48) dX12_voice_48 cv_X12_69 sh_76 (k_its he kl_1 (by omega)) ⟨by decide, by decide⟩ rfl rfl (Nat.le_of_ble_eq_true rfl) ?_
      refine qm_puti (pc := 51) dX12_voice_51 fp_X12_237_12 sh_76 rfl ?_
      refine gq_tog (g := ge_m g r (upd (upd (upd (upd f 23 6) 24 e) 25 (p_e r j 1)) 22 (nI 0))) (by rw [p_uc (i := 22) (j := 23) (by decide), p_uc (i := 22) (j := 24) (by decide), p_uc (i := 22) (j := 25) (by decide)]; rfl) ?_
      refine gq_iload_n (pc := 54) dX12_voice_54 rfl ?_
      refine gq_tabO (pc := 55) 110 dX12_voice_55 (by decide) (by decide) ?_
      refine gq_aload_n (pc := 110) dX12_voice_110 rfl ?_
      refine gq_aload_n (pc := 111) dX12_voice_111 rfl ?_
      refine qw_get (v := 6) (pc := 112) dX12_voice_112 fl_X12_243_12 sh_76 rfl rfl (by decide) ?_
      refine gq_iload_n (pc := 115) dX12_voice_115 rfl ?_
      refine gq_rV2i (pc := 116) dX12_voice_116 cv_X12_249 sh_76 (m_tells_6_6 (f := (upd (upd (upd f 23 6) 24 e) 25 (p_e r j 1))) (k := 0) (by decide) rfl rfl rfl) ⟨by decide, by decide⟩ rfl rfl (Nat.le_of_ble_eq_true rfl) ?_
      exact gq_iret (pc := 119) rfl dX12_voice_119 ⟨rfl, rfl⟩
    · exact absurd h_14 (show ¬ p_in 3 0 3 = 0 by decide)
set_option maxHeartbeats 400000 in
theorem m_voice_er {e a v : Int32} (h : p_in e 0 (r 2 - 1) = 0 ∨ p_in a 0 3 = 0) : ge_N X ge_SH YX12_voice 9 [.ref (ge_ad X.1 76), .int e, .int a, .int v] (ge_m g r f) (some (.int (-1000000001))) (ge_m (ge_up g 81 1 (g 81 1 + 1)) r f) := by
  refine gq_ofB (l := [(0, .ref (ge_ad X.1 76)), (1, .int e), (2, .int a), (3, .int v)]) (by decide) (Nat.le_of_ble_eq_true rfl) rfl ?_
  refine gq_aload_n (pc := 0) dX12_voice_0 rfl ?_
  refine gq_iload_n (pc := 1) dX12_voice_1 rfl ?_
  refine gq_rV1i (pc := 2) dX12_voice_2 cv_X12_66 sh_76 (k_isEye _) ⟨by decide, by decide⟩ rfl rfl (Nat.le_of_ble_eq_true rfl) ?_
  refine gq_if_eq (pc := 5) 17 dX12_voice_5 (by decide) (fun h_5 => ?_) (fun h_5 => ?_)
  · refine gq_aload_n (pc := 17) dX12_voice_17 rfl ?_
    refine gq_ldc (pc := 18) dX12_voice_18 kn_X12_53 ?_
    refine gq_rV1i (pc := 20) dX12_voice_20 cv_X12_54 sh_76 (k_errs (j := 1) (by decide) (by decide)) ⟨by decide, by decide⟩ rfl rfl (Nat.le_of_ble_eq_true rfl) ?_
    exact gq_iret (pc := 23) rfl dX12_voice_23 ⟨rfl, rfl⟩
  · refine gq_iload_n (pc := 8) dX12_voice_8 rfl ?_
    refine gq_iconst (pc := 9) dX12_voice_9 kc_0 ?_
    refine gq_iconst (pc := 10) dX12_voice_10 kc_3 ?_
    refine gq_rS3i (pc := 11) dX12_voice_11 cs_X12_41 (k_in _ _ _) ⟨by decide, by decide⟩ (Nat.le_of_ble_eq_true rfl) ?_
    refine gq_if_ne (pc := 14) 24 dX12_voice_14 (by decide) (fun h_14 => ?_) (fun h_14 => ?_)
    · exact (h.elim h_5 h_14).elim
    · refine gq_aload_n (pc := 17) dX12_voice_17 rfl ?_
      refine gq_ldc (pc := 18) dX12_voice_18 kn_X12_53 ?_
      refine gq_rV1i (pc := 20) dX12_voice_20 cv_X12_54 sh_76 (k_errs (j := 1) (by decide) (by decide)) ⟨by decide, by decide⟩ rfl rfl (Nat.le_of_ble_eq_true rfl) ?_
      exact gq_iret (pc := 23) rfl dX12_voice_23 ⟨rfl, rfl⟩
end V2
