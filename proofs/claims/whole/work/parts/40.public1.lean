section P2
variable {X : ge_X} {g : ge_G} {r f : Nat → Int32} {c : Nat}
theorem p_in_le {v : Int32} {k N : Nat} (h : v = nI k) (hk : k ≤ N) (hN : N < 2 ^ 31) : ¬ p_in v 0 (nI N) = 0 := by
  unfold p_in
  rw [h, if_neg (nI_pos (by omega)), if_neg (nI_nlt hk hN)]
  decide
theorem p_in_l1 {v : Int32} {k N : Nat} (h : v = nI k) (h1 : 1 ≤ k) (hk : k ≤ N) (hN : N < 2 ^ 31) : ¬ p_in v 1 (nI N) = 0 := by
  unfold p_in
  rw [h, if_neg (show ¬ nI k < (1 : Int32) from nI_nlt (a := k) (b := 1) h1 (by omega)), if_neg (nI_nlt hk hN)]
  decide
theorem p_in_E {e : Int32} {q : Int32} {j E : Nat} (h : e = nI j) (hj : j < E) (hE : E ≤ 1000) (e2 : q = nI E) : ¬ p_in e 0 (q - 1) = 0 := by
  obtain ⟨m, rfl⟩ : ∃ m, E = m + 1 := ⟨E - 1, by omega⟩
  rw [e2, nI_pred]
  exact p_in_le h (by omega) (by omega)
/-- and back: what passes is such a number -/
theorem p_in_inv {v : Int32} {N : Nat} (hN : N < 2 ^ 31) (h : ¬ p_in v 0 (nI N) = 0) : ∃ k, k ≤ N ∧ v = nI k := by
  unfold p_in at h
  by_cases h0 : v < 0
  · rw [if_pos h0] at h; exact absurd rfl h
  · rw [if_neg h0] at h
    by_cases h1 : nI N < v
    · rw [if_pos h1] at h; exact absurd rfl h
    · obtain ⟨k, hk, rfl⟩ := nI_of h0
      exact ⟨k, Nat.le_of_not_lt fun z => h1 ((nI_ltI hN hk).mpr z), rfl⟩
theorem p_in_iE {e q : Int32} {E : Nat} (hE : E ≤ 1000) (e2 : q = nI E) (h : ¬ p_in e 0 (q - 1) = 0) : ∃ j, j < E ∧ e = nI j := by
  rw [e2] at h
  cases E with
  | zero =>
    exfalso
    apply h
    unfold p_in
    by_cases h0 : e < 0
    · rw [if_pos h0]
    · rw [if_neg h0, if_pos]
      exact Int32.lt_of_lt_of_le (by decide) (Int32.not_lt.mp h0)
  | succ m =>
    rw [nI_pred] at h
    obtain ⟨k, hk, e⟩ := p_in_inv (by omega) h
    exact ⟨k, by omega, e⟩
set_option maxHeartbeats 400000 in
theorem m_dread_ok {t v : Int32} {a b : Nat} (ha : t = nI a) (ha2 : a ≤ 9) (hb : v = nI b) (hb2 : b ≤ 9) : ge_N X ge_SH YX12_dread 2 [.ref (ge_ad X.1 76), .int t, .int v] (ge_m g r f) (some (.int (r (8 + a)))) (ge_m g (upd r (8 + a) v) f) := by
  refine gq_ofB (l := [(0, .ref (ge_ad X.1 76)), (1, .int t), (2, .int v)]) (by decide) (Nat.le_of_ble_eq_true rfl) rfl ?_
  refine gq_iload_n (pc := 0) dX12_dread_0 rfl ?_
  refine gq_rS1i (pc := 1) dX12_dread_1 cs_X12_45 (k_isThing _) ⟨by decide, by decide⟩ (Nat.le_of_ble_eq_true rfl) ?_
  refine gq_if_eq (pc := 4) 29 dX12_dread_4 (by decide) (fun h_4 => ?_) (fun h_4 => ?_)
  · exact absurd h_4 (p_in_le (N := 9) ha ha2 (by decide))
  · refine gq_iload_n (pc := 7) dX12_dread_7 rfl ?_
    refine gq_iconst (pc := 8) dX12_dread_8 kc_0 ?_
    refine gq_bipush (pc := 9) dX12_dread_9 kb_9 ?_
    refine gq_rS3i (pc := 11) dX12_dread_11 cs_X12_41 (k_in _ _ _) ⟨by decide, by decide⟩ (Nat.le_of_ble_eq_true rfl) ?_
    refine gq_if_eq (pc := 14) 29 dX12_dread_14 (by decide) (fun h_14 => ?_) (fun h_14 => ?_)
    · exact absurd h_14 (p_in_le (N := 9) hb hb2 (by decide))
    · refine gq_aload_n (pc := 17) dX12_dread_17 rfl ?_
      refine gq_bipush (pc := 18) dX12_dread_18 kb_8 ?_
      refine gq_iload_n (pc := 20) dX12_dread_20 rfl ?_
      refine gq_iadd (pc := 21) dX12_dread_21 ?_
      refine gq_iload_n (pc := 22) dX12_dread_22 rfl ?_
      refine gq_rV2i (pc := 23) dX12_dread_23 cv_X12_49 sh_76 (k_becomes (ge_nadd kl_8 ha) (by omega)) ⟨by decide, by decide⟩ rfl rfl (Nat.le_of_ble_eq_true rfl) ?_
      refine gq_goto (pc := 26) 35 dX12_dread_26 (by decide) ?_
      exact gq_iret (pc := 35) rfl dX12_dread_35 ⟨rfl, rfl⟩
set_option maxHeartbeats 400000 in
theorem m_dread_er {t v : Int32} (h : p_in t 0 9 = 0 ∨ p_in v 0 9 = 0) : ge_N X ge_SH YX12_dread 2 [.ref (ge_ad X.1 76), .int t, .int v] (ge_m g r f) (some (.int (-1000000001))) (ge_m (ge_up g 81 1 (g 81 1 + 1)) r f) := by
  refine gq_ofB (l := [(0, .ref (ge_ad X.1 76)), (1, .int t), (2, .int v)]) (by decide) (Nat.le_of_ble_eq_true rfl) rfl ?_
  refine gq_iload_n (pc := 0) dX12_dread_0 rfl ?_
  refine gq_rS1i (pc := 1) dX12_dread_1 cs_X12_45 (k_isThing _) ⟨by decide, by decide⟩ (Nat.le_of_ble_eq_true rfl) ?_
  refine gq_if_eq (pc := 4) 29 dX12_dread_4 (by decide) (fun h_4 => ?_) (fun h_4 => ?_)
  · refine gq_aload_n (pc := 29) dX12_dread_29 rfl ?_
    refine gq_ldc (pc := 30) dX12_dread_30 kn_X12_53 ?_
    refine gq_rV1i (pc := 32) dX12_dread_32 cv_X12_54 sh_76 (k_errs (j := 1) (by decide) (by decide)) ⟨by decide, by decide⟩ rfl rfl (Nat.le_of_ble_eq_true rfl) ?_
    exact gq_iret (pc := 35) rfl dX12_dread_35 ⟨rfl, rfl⟩
  · refine gq_iload_n (pc := 7) dX12_dread_7 rfl ?_
    refine gq_iconst (pc := 8) dX12_dread_8 kc_0 ?_
    refine gq_bipush (pc := 9) dX12_dread_9 kb_9 ?_
    refine gq_rS3i (pc := 11) dX12_dread_11 cs_X12_41 (k_in _ _ _) ⟨by decide, by decide⟩ (Nat.le_of_ble_eq_true rfl) ?_
    refine gq_if_eq (pc := 14) 29 dX12_dread_14 (by decide) (fun h_14 => ?_) (fun h_14 => ?_)
    · refine gq_aload_n (pc := 29) dX12_dread_29 rfl ?_
      refine gq_ldc (pc := 30) dX12_dread_30 kn_X12_53 ?_
      refine gq_rV1i (pc := 32) dX12_dread_32 cv_X12_54 sh_76 (k_errs (j := 1) (by decide) (by decide)) ⟨by decide, by decide⟩ rfl rfl (Nat.le_of_ble_eq_true rfl) ?_
      exact gq_iret (pc := 35) rfl dX12_dread_35 ⟨rfl, rfl⟩
    · exact (h.elim h_4 h_14).elim
set_option maxHeartbeats 400000 in
theorem m_eye_ok {k v : Int32} {a b E : Nat} (ha : k = nI a) (ha2 : a ≤ 69) (hb : v = nI b) (hb2 : b ≤ 9) (hE : E < 8) (e2 : r 2 = nI E) : ge_N X ge_SH YX12_eye 1 [.ref (ge_ad X.1 76), .int k, .int v] (ge_m g r f) (some (.int (nI E))) (ge_m g (upd (p_ue (p_ue (p_ue (p_ue r E 0 (k / 10)) E 1 (p_rem k 10)) E 2 v) E 3 0) 2 (nI (E + 1))) f) := by
  refine gq_ofB (l := [(0, .ref (ge_ad X.1 76)), (1, .int k), (2, .int v)]) (by decide) (Nat.le_of_ble_eq_true rfl) rfl ?_
  refine gq_iload_n (pc := 0) dX12_eye_0 rfl ?_
  refine gq_iconst (pc := 1) dX12_eye_1 kc_0 ?_
  refine gq_bipush (pc := 2) dX12_eye_2 kb_69 ?_
  refine gq_rS3i (pc := 4) dX12_eye_4 cs_X12_41 (k_in _ _ _) ⟨by decide, by decide⟩ (Nat.le_of_ble_eq_true rfl) ?_
  refine gq_if_eq (pc := 7) 20 dX12_eye_7 (by decide) (fun h_7 => ?_) (fun h_7 => ?_)
  · exact absurd h_7 (p_in_le (N := 69) ha ha2 (by decide))
  · refine gq_iload_n (pc := 10) dX12_eye_10 rfl ?_
    refine gq_iconst (pc := 11) dX12_eye_11 kc_0 ?_
    refine gq_bipush (pc := 12) dX12_eye_12 kb_9 ?_
    refine gq_rS3i (pc := 14) dX12_eye_14 cs_X12_41 (k_in _ _ _) ⟨by decide, by decide⟩ (Nat.le_of_ble_eq_true rfl) ?_
    refine gq_if_ne (pc := 17) 27 dX12_eye_17 (by decide) (fun h_17 => ?_) (fun h_17 => ?_)
    · refine gq_aload_n (pc := 27) dX12_eye_27 rfl ?_
      refine gq_getr (pc := 28) dX12_eye_28 fl_X12_7_12 sh_76 rfl ?_
      refine gq_iconst (pc := 31) dX12_eye_31 kc_2 ?_
      refine qm_ald (pc := 32) dX12_eye_32 kl_2 (by first | decide | omega) ?_
      refine gq_bipush (pc := 33) dX12_eye_33 kb_8 ?_
      refine gq_ic_ne (pc := 35) 45 dX12_eye_35 (by decide) (fun h_35 => ?_) (fun h_35 => ?_)
      · refine gq_aload_n (pc := 45) dX12_eye_45 rfl ?_
        refine gq_getr (pc := 46) dX12_eye_46 fl_X12_7_12 sh_76 rfl ?_
        refine gq_iconst (pc := 49) dX12_eye_49 kc_2 ?_
        refine qm_ald (pc := 50) dX12_eye_50 kl_2 (by first | decide | omega) ?_
        refine gq_istore_n (pc := 51) (l' := [(3, _), (0, _), (1, _), (2, _)]) dX12_eye_51 (by decide) rfl ?_
        refine gq_aload_n (pc := 52) dX12_eye_52 rfl ?_
        refine gq_iload_n (pc := 53) dX12_eye_53 rfl ?_
        refine gq_iconst (pc := 54) dX12_eye_54 kc_0 ?_
        refine gq_iload_n (pc := 55) dX12_eye_55 rfl ?_
        refine gq_bipush (pc := 56) dX12_eye_56 kb_10 ?_
        refine gq_idiv (pc := 58) dX12_eye_58 (by decide) ?_
        refine gq_rV3v (pc := 59) dX12_eye_59 cv_X12_59 sh_76 (k_gets e2 kl_0 (by omega)) ⟨by decide, by decide⟩ rfl rfl (Nat.le_of_ble_eq_true rfl) ?_
        refine gq_aload_n (pc := 62) dX12_eye_62 rfl ?_
        refine gq_iload_n (pc := 63) dX12_eye_63 rfl ?_
        refine gq_iconst (pc := 64) dX12_eye_64 kc_1 ?_
        refine gq_iload_n (pc := 65) dX12_eye_65 rfl ?_
        refine gq_bipush (pc := 66) dX12_eye_66 kb_10 ?_
        refine gq_irem (pc := 68) dX12_eye_68 (by decide) (rfl : _ = p_rem _ _) ?_
        refine gq_rV3v (pc := 69) dX12_eye_69 cv_X12_59 sh_76 (k_gets e2 kl_1 (by omega)) ⟨by decide, by decide⟩ rfl rfl (Nat.le_of_ble_eq_true rfl) ?_
        refine gq_aload_n (pc := 72) dX12_eye_72 rfl ?_
        refine gq_iload_n (pc := 73) dX12_eye_73 rfl ?_
        refine gq_iconst (pc := 74) dX12_eye_74 kc_2 ?_
        refine gq_iload_n (pc := 75) dX12_eye_75 rfl ?_
        refine gq_rV3v (pc := 76) dX12_eye_76 cv_X12_59 sh_76 (k_gets e2 kl_2 (by omega)) ⟨by decide, by decide⟩ rfl rfl (Nat.le_of_ble_eq_true rfl) ?_
        refine gq_aload_n (pc := 79) dX12_eye_79 rfl ?_
        refine gq_iload_n (pc := 80) dX12_eye_80 rfl ?_
        refine gq_iconst (pc := 81) dX12_eye_81 kc_3 ?_
        refine gq_iconst (pc := 82) dX12_eye_82 kc_0 ?_
        refine gq_rV3v (pc := 83) dX12_eye_83 cv_X12_59 sh_76 (k_gets e2 kl_3 (by omega)) ⟨by decide, by decide⟩ rfl rfl (Nat.le_of_ble_eq_true rfl) ?_
        refine gq_aload_n (pc := 86) dX12_eye_86 rfl ?_
        refine gq_getr (pc := 87) dX12_eye_87 fl_X12_7_12 sh_76 rfl ?_
        refine gq_iconst (pc := 90) dX12_eye_90 kc_2 ?_
        refine gq_dup2 (pc := 91) dX12_eye_91 rfl rfl ?_
        refine qm_ald (pc := 92) dX12_eye_92 kl_2 (by first | decide | omega) ?_
        rw [show (p_ue (p_ue (p_ue (p_ue r E 0 (k / 10)) E 1 (p_rem k 10)) E 2 v) E 3 0) 2 = nI E from by (repeat rw [p_lo_ue _ _ _ _ _ (show 2 < 18 by omega)]); exact e2]
        refine gq_iconst (pc := 93) dX12_eye_93 kc_1 ?_
        refine gq_iadd (pc := 94) dX12_eye_94 ?_
        rw [nI_1]
        refine qm_ast (pc := 95) dX12_eye_95 kl_2 (by first | decide | omega) ?_
        refine gq_iload_n (pc := 96) dX12_eye_96 rfl ?_
        exact gq_iret (pc := 97) rfl dX12_eye_97 ⟨by rw [e2], rfl⟩
      · exact absurd ((nI_eq (b := 8) (by omega) (by omega)).mp (e2 ▸ h_35)) (by omega)
    · exact absurd h_17 (p_in_le (N := 9) hb hb2 (by decide))
set_option maxHeartbeats 400000 in
theorem m_eye_er {k v : Int32} (h : p_in k 0 69 = 0 ∨ p_in v 0 9 = 0) : ge_N X ge_SH YX12_eye 1 [.ref (ge_ad X.1 76), .int k, .int v] (ge_m g r f) (some (.int (-1000000001))) (ge_m (ge_up g 81 1 (g 81 1 + 1)) r f) := by
  refine gq_ofB (l := [(0, .ref (ge_ad X.1 76)), (1, .int k), (2, .int v)]) (by decide) (Nat.le_of_ble_eq_true rfl) rfl ?_
  refine gq_iload_n (pc := 0) dX12_eye_0 rfl ?_
  refine gq_iconst (pc := 1) dX12_eye_1 kc_0 ?_
  refine gq_bipush (pc := 2) dX12_eye_2 kb_69 ?_
  refine gq_rS3i (pc := 4) dX12_eye_4 cs_X12_41 (k_in _ _ _) ⟨by decide, by decide⟩ (Nat.le_of_ble_eq_true rfl) ?_
  refine gq_if_eq (pc := 7) 20 dX12_eye_7 (by decide) (fun h_7 => ?_) (fun h_7 => ?_)
  · refine gq_aload_n (pc := 20) dX12_eye_20 rfl ?_
    refine gq_ldc (pc := 21) dX12_eye_21 kn_X12_53 ?_
    refine gq_rV1i (pc := 23) dX12_eye_23 cv_X12_54 sh_76 (k_errs (j := 1) (by decide) (by decide)) ⟨by decide, by decide⟩ rfl rfl (Nat.le_of_ble_eq_true rfl) ?_
    exact gq_iret (pc := 26) rfl dX12_eye_26 ⟨rfl, rfl⟩
  · refine gq_iload_n (pc := 10) dX12_eye_10 rfl ?_
    refine gq_iconst (pc := 11) dX12_eye_11 kc_0 ?_
    refine gq_bipush (pc := 12) dX12_eye_12 kb_9 ?_
    refine gq_rS3i (pc := 14) dX12_eye_14 cs_X12_41 (k_in _ _ _) ⟨by decide, by decide⟩ (Nat.le_of_ble_eq_true rfl) ?_
    refine gq_if_ne (pc := 17) 27 dX12_eye_17 (by decide) (fun h_17 => ?_) (fun h_17 => ?_)
    · exact (h.elim h_7 h_17).elim
    · refine gq_aload_n (pc := 20) dX12_eye_20 rfl ?_
      refine gq_ldc (pc := 21) dX12_eye_21 kn_X12_53 ?_
      refine gq_rV1i (pc := 23) dX12_eye_23 cv_X12_54 sh_76 (k_errs (j := 1) (by decide) (by decide)) ⟨by decide, by decide⟩ rfl rfl (Nat.le_of_ble_eq_true rfl) ?_
      exact gq_iret (pc := 26) rfl dX12_eye_26 ⟨rfl, rfl⟩
set_option maxHeartbeats 400000 in
theorem m_eye_fu {k v : Int32} (h1 : ¬ p_in k 0 69 = 0) (h2 : ¬ p_in v 0 9 = 0) (e2 : r 2 = 8) : ge_N X ge_SH YX12_eye 1 [.ref (ge_ad X.1 76), .int k, .int v] (ge_m g r f) (some (.int (-1000000004))) (ge_m (ge_up g 81 4 (g 81 4 + 1)) r f) := by
  refine gq_ofB (l := [(0, .ref (ge_ad X.1 76)), (1, .int k), (2, .int v)]) (by decide) (Nat.le_of_ble_eq_true rfl) rfl ?_
  refine gq_iload_n (pc := 0) dX12_eye_0 rfl ?_
  refine gq_iconst (pc := 1) dX12_eye_1 kc_0 ?_
  refine gq_bipush (pc := 2) dX12_eye_2 kb_69 ?_
  refine gq_rS3i (pc := 4) dX12_eye_4 cs_X12_41 (k_in _ _ _) ⟨by decide, by decide⟩ (Nat.le_of_ble_eq_true rfl) ?_
  refine gq_if_eq (pc := 7) 20 dX12_eye_7 (by decide) (fun h_7 => ?_) (fun h_7 => ?_)
  · exact absurd h_7 h1
  · refine gq_iload_n (pc := 10) dX12_eye_10 rfl ?_
    refine gq_iconst (pc := 11) dX12_eye_11 kc_0 ?_
    refine gq_bipush (pc := 12) dX12_eye_12 kb_9 ?_
    refine gq_rS3i (pc := 14) dX12_eye_14 cs_X12_41 (k_in _ _ _) ⟨by decide, by decide⟩ (Nat.le_of_ble_eq_true rfl) ?_
    refine gq_if_ne (pc := 17) 27 dX12_eye_17 (by decide) (fun h_17 => ?_) (fun h_17 => ?_)
    · refine gq_aload_n (pc := 27) dX12_eye_27 rfl ?_
      refine gq_getr (pc := 28) dX12_eye_28 fl_X12_7_12 sh_76 rfl ?_
      refine gq_iconst (pc := 31) dX12_eye_31 kc_2 ?_
      refine qm_ald (pc := 32) dX12_eye_32 kl_2 (by first | decide | omega) ?_
      refine gq_bipush (pc := 33) dX12_eye_33 kb_8 ?_
      refine gq_ic_ne (pc := 35) 45 dX12_eye_35 (by decide) (fun h_35 => ?_) (fun h_35 => ?_)
      · exact absurd e2 h_35
      · refine gq_aload_n (pc := 38) dX12_eye_38 rfl ?_
        refine gq_ldc (pc := 39) dX12_eye_39 kn_X12_58 ?_
        refine gq_rV1i (pc := 41) dX12_eye_41 cv_X12_54 sh_76 (k_errs (j := 4) (by decide) (by decide)) ⟨by decide, by decide⟩ rfl rfl (Nat.le_of_ble_eq_true rfl) ?_
        exact gq_iret (pc := 44) rfl dX12_eye_44 ⟨rfl, rfl⟩
    · exact absurd h_17 h2
set_option maxHeartbeats 400000 in
theorem m_change_ok0 {e v : Int32} {j b E : Nat} (he : e = nI j) (hj : j < E) (hE : E ≤ 8) (e2 : r 2 = nI E) (hb : v = nI b) (hb2 : b ≤ 9) : ge_N X ge_SH YX12_change 2 [.ref (ge_ad X.1 76), .int e, .int 0, .int v] (ge_m g r f) (some (.int (r (18 + 4 * j + 2)))) (ge_m g (upd r (18 + 4 * j + 2) v) f) := by
  refine gq_ofB (l := [(0, .ref (ge_ad X.1 76)), (1, .int e), (2, .int 0), (3, .int v)]) (by decide) (Nat.le_of_ble_eq_true rfl) rfl ?_
  refine gq_iload_n (pc := 0) dX12_change_0 rfl ?_
  refine gq_if_ne (pc := 1) 14 dX12_change_1 (by decide) (fun h_1 => ?_) (fun h_1 => ?_)
  · exact absurd h_1 (by decide)
  · refine gq_iload_n (pc := 4) dX12_change_4 rfl ?_
    refine gq_iconst (pc := 5) dX12_change_5 kc_0 ?_
    refine gq_bipush (pc := 6) dX12_change_6 kb_9 ?_
    refine gq_rS3i (pc := 8) dX12_change_8 cs_X12_41 (k_in _ _ _) ⟨by decide, by decide⟩ (Nat.le_of_ble_eq_true rfl) ?_
    refine gq_goto (pc := 11) 35 dX12_change_11 (by decide) ?_
    refine gq_istore (pc := 35) (l' := [(4, _), (0, _), (1, _), (2, _), (3, _)]) dX12_change_35 (by decide) rfl ?_
    refine gq_aload_n (pc := 37) dX12_change_37 rfl ?_
    refine gq_iload_n (pc := 38) dX12_change_38 rfl ?_
    refine gq_rV1i (pc := 39) dX12_change_39 cv_X12_66 sh_76 (k_isEye _) ⟨by decide, by decide⟩ rfl rfl (Nat.le_of_ble_eq_true rfl) ?_
    refine gq_if_eq (pc := 42) 68 dX12_change_42 (by decide) (fun h_42 => ?_) (fun h_42 => ?_)
    · exact absurd h_42 (p_in_E he hj (by omega) e2)
    · refine gq_iload (pc := 45) dX12_change_45 rfl ?_
      refine gq_if_eq (pc := 47) 68 dX12_change_47 (by decide) (fun h_47 => ?_) (fun h_47 => ?_)
      · exact absurd h_47 (p_in_le (N := 9) hb hb2 (by decide))
      · refine gq_aload_n (pc := 50) dX12_change_50 rfl ?_
        refine gq_bipush (pc := 51) dX12_change_51 kb_18 ?_
        refine gq_iconst (pc := 53) dX12_change_53 kc_4 ?_
        refine gq_iload_n (pc := 54) dX12_change_54 rfl ?_
        refine gq_imul (pc := 55) dX12_change_55 ?_
        refine gq_iadd (pc := 56) dX12_change_56 ?_
        refine gq_iconst (pc := 57) dX12_change_57 kc_2 ?_
        refine gq_iadd (pc := 58) dX12_change_58 ?_
        refine gq_iload_n (pc := 59) dX12_change_59 rfl ?_
        refine gq_iadd (pc := 60) dX12_change_60 ?_
        refine gq_iload_n (pc := 61) dX12_change_61 rfl ?_
        refine gq_rV2i (pc := 62) dX12_change_62 cv_X12_49 sh_76 (k_becomes (j := 18 + 4 * j + 2) (by have q := ge_nadd (ge_nadd (ge_nadd kl_18 (ge_nmul kl_4 he)) kl_2) kl_0; exact q) (by omega)) ⟨by decide, by decide⟩ rfl rfl (Nat.le_of_ble_eq_true rfl) ?_
        refine gq_goto (pc := 65) 74 dX12_change_65 (by decide) ?_
        exact gq_iret (pc := 74) rfl dX12_change_74 ⟨rfl, rfl⟩
set_option maxHeartbeats 400000 in
theorem m_change_ok1 {e v : Int32} {j b E : Nat} (he : e = nI j) (hj : j < E) (hE : E ≤ 8) (e2 : r 2 = nI E) (hb : v = nI b) (hb2 : b ≤ 9999) : ge_N X ge_SH YX12_change 2 [.ref (ge_ad X.1 76), .int e, .int 1, .int v] (ge_m g r f) (some (.int (r (18 + 4 * j + 3)))) (ge_m g (upd r (18 + 4 * j + 3) v) f) := by
  refine gq_ofB (l := [(0, .ref (ge_ad X.1 76)), (1, .int e), (2, .int 1), (3, .int v)]) (by decide) (Nat.le_of_ble_eq_true rfl) rfl ?_
  refine gq_iload_n (pc := 0) dX12_change_0 rfl ?_
  refine gq_if_ne (pc := 1) 14 dX12_change_1 (by decide) (fun h_1 => ?_) (fun h_1 => ?_)
  · refine gq_iload_n (pc := 14) dX12_change_14 rfl ?_
    refine gq_iconst (pc := 15) dX12_change_15 kc_1 ?_
    refine gq_ic_ne (pc := 16) 34 dX12_change_16 (by decide) (fun h_16 => ?_) (fun h_16 => ?_)
    · exact absurd h_16 (by decide)
    · refine gq_iload_n (pc := 19) dX12_change_19 rfl ?_
      refine gq_iconst (pc := 20) dX12_change_20 kc_0 ?_
      refine gq_sipush (pc := 21) dX12_change_21 kq_9999 ?_
      refine gq_rS3i (pc := 24) dX12_change_24 cs_X12_41 (k_in _ _ _) ⟨by decide, by decide⟩ (Nat.le_of_ble_eq_true rfl) ?_
      refine gq_if_eq (pc := 27) 34 dX12_change_27 (by decide) (fun h_27 => ?_) (fun h_27 => ?_)
      · exact absurd h_27 (p_in_le (N := 9999) hb hb2 (by decide))
      · refine gq_iconst (pc := 30) dX12_change_30 kc_1 ?_
        refine gq_goto (pc := 31) 35 dX12_change_31 (by decide) ?_
        refine gq_istore (pc := 35) (l' := [(4, _), (0, _), (1, _), (2, _), (3, _)]) dX12_change_35 (by decide) rfl ?_
        refine gq_aload_n (pc := 37) dX12_change_37 rfl ?_
        refine gq_iload_n (pc := 38) dX12_change_38 rfl ?_
        refine gq_rV1i (pc := 39) dX12_change_39 cv_X12_66 sh_76 (k_isEye _) ⟨by decide, by decide⟩ rfl rfl (Nat.le_of_ble_eq_true rfl) ?_
        refine gq_if_eq (pc := 42) 68 dX12_change_42 (by decide) (fun h_42 => ?_) (fun h_42 => ?_)
        · exact absurd h_42 (p_in_E he hj (by omega) e2)
        · refine gq_iload (pc := 45) dX12_change_45 rfl ?_
          refine gq_if_eq (pc := 47) 68 dX12_change_47 (by decide) (fun h_47 => ?_) (fun h_47 => ?_)
          · exact absurd h_47 (by decide)
          · refine gq_aload_n (pc := 50) dX12_change_50 rfl ?_
            refine gq_bipush (pc := 51) dX12_change_51 kb_18 ?_
            refine gq_iconst (pc := 53) dX12_change_53 kc_4 ?_
            refine gq_iload_n (pc := 54) dX12_change_54 rfl ?_
            refine gq_imul (pc := 55) dX12_change_55 ?_
            refine gq_iadd (pc := 56) dX12_change_56 ?_
            refine gq_iconst (pc := 57) dX12_change_57 kc_2 ?_
            refine gq_iadd (pc := 58) dX12_change_58 ?_
            refine gq_iload_n (pc := 59) dX12_change_59 rfl ?_
            refine gq_iadd (pc := 60) dX12_change_60 ?_
            refine gq_iload_n (pc := 61) dX12_change_61 rfl ?_
            refine gq_rV2i (pc := 62) dX12_change_62 cv_X12_49 sh_76 (k_becomes (j := 18 + 4 * j + 3) (by have q := ge_nadd (ge_nadd (ge_nadd kl_18 (ge_nmul kl_4 he)) kl_2) kl_1; exact q) (by omega)) ⟨by decide, by decide⟩ rfl rfl (Nat.le_of_ble_eq_true rfl) ?_
            refine gq_goto (pc := 65) 74 dX12_change_65 (by decide) ?_
            exact gq_iret (pc := 74) rfl dX12_change_74 ⟨rfl, rfl⟩
  · exact absurd h_1 (by decide)
set_option maxHeartbeats 400000 in
theorem m_set_ok0 {e v : Int32} {j b E : Nat} (he : e = nI j) (hj : j < E) (hE : E ≤ 6) (e2 : r 3 = nI E) (hb : v = nI b) (hb2 : b ≤ 99) : ge_N X ge_SH YX12_set 2 [.ref (ge_ad X.1 76), .int e, .int 0, .int v] (ge_m g r f) (some (.int (r (50 + 4 * j + 2)))) (ge_m g (upd r (50 + 4 * j + 2) v) f) := by
  refine gq_ofB (l := [(0, .ref (ge_ad X.1 76)), (1, .int e), (2, .int 0), (3, .int v)]) (by decide) (Nat.le_of_ble_eq_true rfl) rfl ?_
  refine gq_iload_n (pc := 0) dX12_set_0 rfl ?_
  refine gq_if_ne (pc := 1) 14 dX12_set_1 (by decide) (fun h_1 => ?_) (fun h_1 => ?_)
  · exact absurd h_1 (by decide)
  · refine gq_iload_n (pc := 4) dX12_set_4 rfl ?_
    refine gq_iconst (pc := 5) dX12_set_5 kc_0 ?_
    refine gq_bipush (pc := 6) dX12_set_6 kb_99 ?_
    refine gq_rS3i (pc := 8) dX12_set_8 cs_X12_41 (k_in _ _ _) ⟨by decide, by decide⟩ (Nat.le_of_ble_eq_true rfl) ?_
    refine gq_goto (pc := 11) 35 dX12_set_11 (by decide) ?_
    refine gq_istore (pc := 35) (l' := [(4, _), (0, _), (1, _), (2, _), (3, _)]) dX12_set_35 (by decide) rfl ?_
    refine gq_aload_n (pc := 37) dX12_set_37 rfl ?_
    refine gq_iload_n (pc := 38) dX12_set_38 rfl ?_
    refine gq_rV1i (pc := 39) dX12_set_39 cv_X12_84 sh_76 (k_isWearer _) ⟨by decide, by decide⟩ rfl rfl (Nat.le_of_ble_eq_true rfl) ?_
    refine gq_if_eq (pc := 42) 68 dX12_set_42 (by decide) (fun h_42 => ?_) (fun h_42 => ?_)
    · exact absurd h_42 (p_in_E he hj (by omega) e2)
    · refine gq_iload (pc := 45) dX12_set_45 rfl ?_
      refine gq_if_eq (pc := 47) 68 dX12_set_47 (by decide) (fun h_47 => ?_) (fun h_47 => ?_)
      · exact absurd h_47 (p_in_le (N := 99) hb hb2 (by decide))
      · refine gq_aload_n (pc := 50) dX12_set_50 rfl ?_
        refine gq_bipush (pc := 51) dX12_set_51 kb_50 ?_
        refine gq_iconst (pc := 53) dX12_set_53 kc_4 ?_
        refine gq_iload_n (pc := 54) dX12_set_54 rfl ?_
        refine gq_imul (pc := 55) dX12_set_55 ?_
        refine gq_iadd (pc := 56) dX12_set_56 ?_
        refine gq_iconst (pc := 57) dX12_set_57 kc_2 ?_
        refine gq_iadd (pc := 58) dX12_set_58 ?_
        refine gq_iload_n (pc := 59) dX12_set_59 rfl ?_
        refine gq_iadd (pc := 60) dX12_set_60 ?_
        refine gq_iload_n (pc := 61) dX12_set_61 rfl ?_
        refine gq_rV2i (pc := 62) dX12_set_62 cv_X12_49 sh_76 (k_becomes (j := 50 + 4 * j + 2) (by have q := ge_nadd (ge_nadd (ge_nadd kl_50 (ge_nmul kl_4 he)) kl_2) kl_0; exact q) (by omega)) ⟨by decide, by decide⟩ rfl rfl (Nat.le_of_ble_eq_true rfl) ?_
        refine gq_goto (pc := 65) 74 dX12_set_65 (by decide) ?_
        exact gq_iret (pc := 74) rfl dX12_set_74 ⟨rfl, rfl⟩
set_option maxHeartbeats 400000 in
theorem m_set_ok1 {e v : Int32} {j b E : Nat} (he : e = nI j) (hj : j < E) (hE : E ≤ 6) (e2 : r 3 = nI E) (hb : v = nI b) (hb2 : b ≤ 1023) : ge_N X ge_SH YX12_set 2 [.ref (ge_ad X.1 76), .int e, .int 1, .int v] (ge_m g r f) (some (.int (r (50 + 4 * j + 3)))) (ge_m g (upd r (50 + 4 * j + 3) v) f) := by
  refine gq_ofB (l := [(0, .ref (ge_ad X.1 76)), (1, .int e), (2, .int 1), (3, .int v)]) (by decide) (Nat.le_of_ble_eq_true rfl) rfl ?_
  refine gq_iload_n (pc := 0) dX12_set_0 rfl ?_
  refine gq_if_ne (pc := 1) 14 dX12_set_1 (by decide) (fun h_1 => ?_) (fun h_1 => ?_)
  · refine gq_iload_n (pc := 14) dX12_set_14 rfl ?_
    refine gq_iconst (pc := 15) dX12_set_15 kc_1 ?_
    refine gq_ic_ne (pc := 16) 34 dX12_set_16 (by decide) (fun h_16 => ?_) (fun h_16 => ?_)
    · exact absurd h_16 (by decide)
    · refine gq_iload_n (pc := 19) dX12_set_19 rfl ?_
      refine gq_iconst (pc := 20) dX12_set_20 kc_0 ?_
      refine gq_sipush (pc := 21) dX12_set_21 kq_1023 ?_
      refine gq_rS3i (pc := 24) dX12_set_24 cs_X12_41 (k_in _ _ _) ⟨by decide, by decide⟩ (Nat.le_of_ble_eq_true rfl) ?_
      refine gq_if_eq (pc := 27) 34 dX12_set_27 (by decide) (fun h_27 => ?_) (fun h_27 => ?_)
      · exact absurd h_27 (p_in_le (N := 1023) hb hb2 (by decide))
      · refine gq_iconst (pc := 30) dX12_set_30 kc_1 ?_
        refine gq_goto (pc := 31) 35 dX12_set_31 (by decide) ?_
        refine gq_istore (pc := 35) (l' := [(4, _), (0, _), (1, _), (2, _), (3, _)]) dX12_set_35 (by decide) rfl ?_
        refine gq_aload_n (pc := 37) dX12_set_37 rfl ?_
        refine gq_iload_n (pc := 38) dX12_set_38 rfl ?_
        refine gq_rV1i (pc := 39) dX12_set_39 cv_X12_84 sh_76 (k_isWearer _) ⟨by decide, by decide⟩ rfl rfl (Nat.le_of_ble_eq_true rfl) ?_
        refine gq_if_eq (pc := 42) 68 dX12_set_42 (by decide) (fun h_42 => ?_) (fun h_42 => ?_)
        · exact absurd h_42 (p_in_E he hj (by omega) e2)
        · refine gq_iload (pc := 45) dX12_set_45 rfl ?_
          refine gq_if_eq (pc := 47) 68 dX12_set_47 (by decide) (fun h_47 => ?_) (fun h_47 => ?_)
          · exact absurd h_47 (by decide)
          · refine gq_aload_n (pc := 50) dX12_set_50 rfl ?_
            refine gq_bipush (pc := 51) dX12_set_51 kb_50 ?_
            refine gq_iconst (pc := 53) dX12_set_53 kc_4 ?_
            refine gq_iload_n (pc := 54) dX12_set_54 rfl ?_
            refine gq_imul (pc := 55) dX12_set_55 ?_
            refine gq_iadd (pc := 56) dX12_set_56 ?_
            refine gq_iconst (pc := 57) dX12_set_57 kc_2 ?_
            refine gq_iadd (pc := 58) dX12_set_58 ?_
            refine gq_iload_n (pc := 59) dX12_set_59 rfl ?_
            refine gq_iadd (pc := 60) dX12_set_60 ?_
            refine gq_iload_n (pc := 61) dX12_set_61 rfl ?_
            refine gq_rV2i (pc := 62) dX12_set_62 cv_X12_49 sh_76 (k_becomes (j := 50 + 4 * j + 3) (by have q := ge_nadd (ge_nadd (ge_nadd kl_50 (ge_nmul kl_4 he)) kl_2) kl_1; exact q) (by omega)) ⟨by decide, by decide⟩ rfl rfl (Nat.le_of_ble_eq_true rfl) ?_
            refine gq_goto (pc := 65) 74 dX12_set_65 (by decide) ?_
            exact gq_iret (pc := 74) rfl dX12_set_74 ⟨rfl, rfl⟩
  · exact absurd h_1 (by decide)
set_option maxHeartbeats 400000 in
theorem m_wearer_ok {V : Nat} (hV : V < 6) (e3 : r 3 = nI V) : ge_N X ge_SH YX12_wearer 1 [.ref (ge_ad X.1 76)] (ge_m g r f) (some (.int (nI V))) (ge_m g (upd (p_uo (p_uo (p_uo (p_uo r V 0 (-1)) V 1 (-1)) V 2 20) V 3 0) 3 (nI (V + 1))) f) := by
  refine gq_ofB (l := [(0, .ref (ge_ad X.1 76))]) (by decide) (Nat.le_of_ble_eq_true rfl) rfl ?_
  refine gq_aload_n (pc := 0) dX12_wearer_0 rfl ?_
  refine gq_getr (pc := 1) dX12_wearer_1 fl_X12_7_12 sh_76 rfl ?_
  refine gq_iconst (pc := 4) dX12_wearer_4 kc_3 ?_
  refine qm_ald (pc := 5) dX12_wearer_5 kl_3 (by first | decide | omega) ?_
  refine gq_bipush (pc := 6) dX12_wearer_6 kb_6 ?_
  refine gq_ic_ne (pc := 8) 18 dX12_wearer_8 (by decide) (fun h_8 => ?_) (fun h_8 => ?_)
  · refine gq_aload_n (pc := 18) dX12_wearer_18 rfl ?_
    refine gq_getr (pc := 19) dX12_wearer_19 fl_X12_7_12 sh_76 rfl ?_
    refine gq_iconst (pc := 22) dX12_wearer_22 kc_3 ?_
    refine qm_ald (pc := 23) dX12_wearer_23 kl_3 (by first | decide | omega) ?_
    refine gq_istore_n (pc := 24) (l' := [(1, _), (0, _)]) dX12_wearer_24 (by decide) rfl ?_
    refine gq_aload_n (pc := 25) dX12_wearer_25 rfl ?_
    refine gq_iload_n (pc := 26) dX12_wearer_26 rfl ?_
    refine gq_iconst (pc := 27) dX12_wearer_27 kc_0 ?_
    refine gq_iconst (pc := 28) dX12_wearer_28 kc_m1 ?_
    refine gq_rV3v (pc := 29) dX12_wearer_29 cv_X12_81 sh_76 (k_puts e3 kl_0 (by omega)) ⟨by decide, by decide⟩ rfl rfl (Nat.le_of_ble_eq_true rfl) ?_
    refine gq_aload_n (pc := 32) dX12_wearer_32 rfl ?_
    refine gq_iload_n (pc := 33) dX12_wearer_33 rfl ?_
    refine gq_iconst (pc := 34) dX12_wearer_34 kc_1 ?_
    refine gq_iconst (pc := 35) dX12_wearer_35 kc_m1 ?_
    refine gq_rV3v (pc := 36) dX12_wearer_36 cv_X12_81 sh_76 (k_puts e3 kl_1 (by omega)) ⟨by decide, by decide⟩ rfl rfl (Nat.le_of_ble_eq_true rfl) ?_
    refine gq_aload_n (pc := 39) dX12_wearer_39 rfl ?_
    refine gq_iload_n (pc := 40) dX12_wearer_40 rfl ?_
    refine gq_iconst (pc := 41) dX12_wearer_41 kc_2 ?_
    refine gq_bipush (pc := 42) dX12_wearer_42 kb_20 ?_
    refine gq_rV3v (pc := 44) dX12_wearer_44 cv_X12_81 sh_76 (k_puts e3 kl_2 (by omega)) ⟨by decide, by decide⟩ rfl rfl (Nat.le_of_ble_eq_true rfl) ?_
    refine gq_aload_n (pc := 47) dX12_wearer_47 rfl ?_
    refine gq_iload_n (pc := 48) dX12_wearer_48 rfl ?_
    refine gq_iconst (pc := 49) dX12_wearer_49 kc_3 ?_
    refine gq_iconst (pc := 50) dX12_wearer_50 kc_0 ?_
    refine gq_rV3v (pc := 51) dX12_wearer_51 cv_X12_81 sh_76 (k_puts e3 kl_3 (by omega)) ⟨by decide, by decide⟩ rfl rfl (Nat.le_of_ble_eq_true rfl) ?_
    refine gq_aload_n (pc := 54) dX12_wearer_54 rfl ?_
    refine gq_getr (pc := 55) dX12_wearer_55 fl_X12_7_12 sh_76 rfl ?_
    refine gq_iconst (pc := 58) dX12_wearer_58 kc_3 ?_
    refine gq_dup2 (pc := 59) dX12_wearer_59 rfl rfl ?_
    refine qm_ald (pc := 60) dX12_wearer_60 kl_3 (by first | decide | omega) ?_
    rw [show (p_uo (p_uo (p_uo (p_uo r V 0 (-1)) V 1 (-1)) V 2 20) V 3 0) 3 = nI V from by (repeat rw [p_lo_uo _ _ _ _ _ (show 3 < 50 by omega)]); exact e3]
    refine gq_iconst (pc := 61) dX12_wearer_61 kc_1 ?_
    refine gq_iadd (pc := 62) dX12_wearer_62 ?_
    rw [nI_1]
    refine qm_ast (pc := 63) dX12_wearer_63 kl_3 (by first | decide | omega) ?_
    refine gq_iload_n (pc := 64) dX12_wearer_64 rfl ?_
    exact gq_iret (pc := 65) rfl dX12_wearer_65 ⟨by rw [e3], rfl⟩
  · exact absurd ((nI_eq (b := 6) (by omega) (by omega)).mp (e3 ▸ h_8)) (by omega)
set_option maxHeartbeats 400000 in
theorem m_wearer_er (e3 : r 3 = 6) : ge_N X ge_SH YX12_wearer 1 [.ref (ge_ad X.1 76)] (ge_m g r f) (some (.int (-1000000004))) (ge_m (ge_up g 81 4 (g 81 4 + 1)) r f) := by
  refine gq_ofB (l := [(0, .ref (ge_ad X.1 76))]) (by decide) (Nat.le_of_ble_eq_true rfl) rfl ?_
  refine gq_aload_n (pc := 0) dX12_wearer_0 rfl ?_
  refine gq_getr (pc := 1) dX12_wearer_1 fl_X12_7_12 sh_76 rfl ?_
  refine gq_iconst (pc := 4) dX12_wearer_4 kc_3 ?_
  refine qm_ald (pc := 5) dX12_wearer_5 kl_3 (by first | decide | omega) ?_
  refine gq_bipush (pc := 6) dX12_wearer_6 kb_6 ?_
  refine gq_ic_ne (pc := 8) 18 dX12_wearer_8 (by decide) (fun h_8 => ?_) (fun h_8 => ?_)
  · exact absurd e3 h_8
  · refine gq_aload_n (pc := 11) dX12_wearer_11 rfl ?_
    refine gq_ldc (pc := 12) dX12_wearer_12 kn_X12_58 ?_
    refine gq_rV1i (pc := 14) dX12_wearer_14 cv_X12_54 sh_76 (k_errs (j := 4) (by decide) (by decide)) ⟨by decide, by decide⟩ rfl rfl (Nat.le_of_ble_eq_true rfl) ?_
    exact gq_iret (pc := 17) rfl dX12_wearer_17 ⟨rfl, rfl⟩
set_option maxHeartbeats 400000 in
theorem m_ofWearer_ok0 {w : Int32} {i V : Nat} (hw : w = nI i) (hi : i < V) (hV : V ≤ 6) (e3 : r 3 = nI V) : ge_N X ge_SH YX12_ofWearer 43 [.ref (ge_ad X.1 76), .int w, .int 0] (ge_m g r f) (some (.int (p_o r i 0))) (ge_m g r f) := by
  refine gq_ofB (l := [(0, .ref (ge_ad X.1 76)), (1, .int w), (2, .int 0)]) (by decide) (Nat.le_of_ble_eq_true rfl) rfl ?_
  refine gq_aload_n (pc := 0) dX12_ofWearer_0 rfl ?_
  refine gq_iload_n (pc := 1) dX12_ofWearer_1 rfl ?_
  refine gq_rV1i (pc := 2) dX12_ofWearer_2 cv_X12_84 sh_76 (k_isWearer _) ⟨by decide, by decide⟩ rfl rfl (Nat.le_of_ble_eq_true rfl) ?_
  refine gq_if_eq (pc := 5) 17 dX12_ofWearer_5 (by decide) (fun h_5 => ?_) (fun h_5 => ?_)
  · exact absurd h_5 (p_in_E hw hi (by omega) e3)
  · refine gq_iload_n (pc := 8) dX12_ofWearer_8 rfl ?_
    refine gq_iconst (pc := 9) dX12_ofWearer_9 kc_0 ?_
    refine gq_iconst (pc := 10) dX12_ofWearer_10 kc_4 ?_
    refine gq_rS3i (pc := 11) dX12_ofWearer_11 cs_X12_41 (k_in _ _ _) ⟨by decide, by decide⟩ (Nat.le_of_ble_eq_true rfl) ?_
    refine gq_if_ne (pc := 14) 24 dX12_ofWearer_14 (by decide) (fun h_14 => ?_) (fun h_14 => ?_)
    · refine gq_iload_n (pc := 24) dX12_ofWearer_24 rfl ?_
      refine gq_iconst (pc := 25) dX12_ofWearer_25 kc_4 ?_
      refine gq_ic_ge (pc := 26) 38 dX12_ofWearer_26 (by decide) (fun h_26 => ?_) (fun h_26 => ?_)
      · exact absurd h_26 (by decide)
      · refine gq_aload_n (pc := 29) dX12_ofWearer_29 rfl ?_
        refine gq_iload_n (pc := 30) dX12_ofWearer_30 rfl ?_
        refine gq_iload_n (pc := 31) dX12_ofWearer_31 rfl ?_
        refine gq_rV2i (pc := 32) dX12_ofWearer_32 cv_X12_63 sh_76 (k_ones hw kl_0 (by omega)) ⟨by decide, by decide⟩ rfl rfl (Nat.le_of_ble_eq_true rfl) ?_
        refine gq_goto (pc := 35) 43 dX12_ofWearer_35 (by decide) ?_
        exact gq_iret (pc := 43) rfl dX12_ofWearer_43 ⟨rfl, rfl⟩
    · exact absurd h_14 (by decide)
set_option maxHeartbeats 400000 in
theorem m_ofWearer_ok1 {w : Int32} {i V : Nat} (hw : w = nI i) (hi : i < V) (hV : V ≤ 6) (e3 : r 3 = nI V) : ge_N X ge_SH YX12_ofWearer 43 [.ref (ge_ad X.1 76), .int w, .int 1] (ge_m g r f) (some (.int (p_o r i 1))) (ge_m g r f) := by
  refine gq_ofB (l := [(0, .ref (ge_ad X.1 76)), (1, .int w), (2, .int 1)]) (by decide) (Nat.le_of_ble_eq_true rfl) rfl ?_
  refine gq_aload_n (pc := 0) dX12_ofWearer_0 rfl ?_
  refine gq_iload_n (pc := 1) dX12_ofWearer_1 rfl ?_
  refine gq_rV1i (pc := 2) dX12_ofWearer_2 cv_X12_84 sh_76 (k_isWearer _) ⟨by decide, by decide⟩ rfl rfl (Nat.le_of_ble_eq_true rfl) ?_
  refine gq_if_eq (pc := 5) 17 dX12_ofWearer_5 (by decide) (fun h_5 => ?_) (fun h_5 => ?_)
  · exact absurd h_5 (p_in_E hw hi (by omega) e3)
  · refine gq_iload_n (pc := 8) dX12_ofWearer_8 rfl ?_
    refine gq_iconst (pc := 9) dX12_ofWearer_9 kc_0 ?_
    refine gq_iconst (pc := 10) dX12_ofWearer_10 kc_4 ?_
    refine gq_rS3i (pc := 11) dX12_ofWearer_11 cs_X12_41 (k_in _ _ _) ⟨by decide, by decide⟩ (Nat.le_of_ble_eq_true rfl) ?_
    refine gq_if_ne (pc := 14) 24 dX12_ofWearer_14 (by decide) (fun h_14 => ?_) (fun h_14 => ?_)
    · refine gq_iload_n (pc := 24) dX12_ofWearer_24 rfl ?_
      refine gq_iconst (pc := 25) dX12_ofWearer_25 kc_4 ?_
      refine gq_ic_ge (pc := 26) 38 dX12_ofWearer_26 (by decide) (fun h_26 => ?_) (fun h_26 => ?_)
      · exact absurd h_26 (by decide)
      · refine gq_aload_n (pc := 29) dX12_ofWearer_29 rfl ?_
        refine gq_iload_n (pc := 30) dX12_ofWearer_30 rfl ?_
        refine gq_iload_n (pc := 31) dX12_ofWearer_31 rfl ?_
        refine gq_rV2i (pc := 32) dX12_ofWearer_32 cv_X12_63 sh_76 (k_ones hw kl_1 (by omega)) ⟨by decide, by decide⟩ rfl rfl (Nat.le_of_ble_eq_true rfl) ?_
        refine gq_goto (pc := 35) 43 dX12_ofWearer_35 (by decide) ?_
        exact gq_iret (pc := 43) rfl dX12_ofWearer_43 ⟨rfl, rfl⟩
    · exact absurd h_14 (by decide)
set_option maxHeartbeats 400000 in
theorem m_ofWearer_ok2 {w : Int32} {i V : Nat} (hw : w = nI i) (hi : i < V) (hV : V ≤ 6) (e3 : r 3 = nI V) : ge_N X ge_SH YX12_ofWearer 43 [.ref (ge_ad X.1 76), .int w, .int 2] (ge_m g r f) (some (.int (p_o r i 2))) (ge_m g r f) := by
  refine gq_ofB (l := [(0, .ref (ge_ad X.1 76)), (1, .int w), (2, .int 2)]) (by decide) (Nat.le_of_ble_eq_true rfl) rfl ?_
  refine gq_aload_n (pc := 0) dX12_ofWearer_0 rfl ?_
  refine gq_iload_n (pc := 1) dX12_ofWearer_1 rfl ?_
  refine gq_rV1i (pc := 2) dX12_ofWearer_2 cv_X12_84 sh_76 (k_isWearer _) ⟨by decide, by decide⟩ rfl rfl (Nat.le_of_ble_eq_true rfl) ?_
  refine gq_if_eq (pc := 5) 17 dX12_ofWearer_5 (by decide) (fun h_5 => ?_) (fun h_5 => ?_)
  · exact absurd h_5 (p_in_E hw hi (by omega) e3)
  · refine gq_iload_n (pc := 8) dX12_ofWearer_8 rfl ?_
    refine gq_iconst (pc := 9) dX12_ofWearer_9 kc_0 ?_
    refine gq_iconst (pc := 10) dX12_ofWearer_10 kc_4 ?_
    refine gq_rS3i (pc := 11) dX12_ofWearer_11 cs_X12_41 (k_in _ _ _) ⟨by decide, by decide⟩ (Nat.le_of_ble_eq_true rfl) ?_
    refine gq_if_ne (pc := 14) 24 dX12_ofWearer_14 (by decide) (fun h_14 => ?_) (fun h_14 => ?_)
    · refine gq_iload_n (pc := 24) dX12_ofWearer_24 rfl ?_
      refine gq_iconst (pc := 25) dX12_ofWearer_25 kc_4 ?_
      refine gq_ic_ge (pc := 26) 38 dX12_ofWearer_26 (by decide) (fun h_26 => ?_) (fun h_26 => ?_)
      · exact absurd h_26 (by decide)
      · refine gq_aload_n (pc := 29) dX12_ofWearer_29 rfl ?_
        refine gq_iload_n (pc := 30) dX12_ofWearer_30 rfl ?_
        refine gq_iload_n (pc := 31) dX12_ofWearer_31 rfl ?_
        refine gq_rV2i (pc := 32) dX12_ofWearer_32 cv_X12_63 sh_76 (k_ones hw kl_2 (by omega)) ⟨by decide, by decide⟩ rfl rfl (Nat.le_of_ble_eq_true rfl) ?_
        refine gq_goto (pc := 35) 43 dX12_ofWearer_35 (by decide) ?_
        exact gq_iret (pc := 43) rfl dX12_ofWearer_43 ⟨rfl, rfl⟩
    · exact absurd h_14 (by decide)
set_option maxHeartbeats 400000 in
theorem m_ofWearer_ok3 {w : Int32} {i V : Nat} (hw : w = nI i) (hi : i < V) (hV : V ≤ 6) (e3 : r 3 = nI V) : ge_N X ge_SH YX12_ofWearer 43 [.ref (ge_ad X.1 76), .int w, .int 3] (ge_m g r f) (some (.int (p_o r i 3))) (ge_m g r f) := by
  refine gq_ofB (l := [(0, .ref (ge_ad X.1 76)), (1, .int w), (2, .int 3)]) (by decide) (Nat.le_of_ble_eq_true rfl) rfl ?_
  refine gq_aload_n (pc := 0) dX12_ofWearer_0 rfl ?_
  refine gq_iload_n (pc := 1) dX12_ofWearer_1 rfl ?_
  refine gq_rV1i (pc := 2) dX12_ofWearer_2 cv_X12_84 sh_76 (k_isWearer _) ⟨by decide, by decide⟩ rfl rfl (Nat.le_of_ble_eq_true rfl) ?_
  refine gq_if_eq (pc := 5) 17 dX12_ofWearer_5 (by decide) (fun h_5 => ?_) (fun h_5 => ?_)
  · exact absurd h_5 (p_in_E hw hi (by omega) e3)
  · refine gq_iload_n (pc := 8) dX12_ofWearer_8 rfl ?_
    refine gq_iconst (pc := 9) dX12_ofWearer_9 kc_0 ?_
    refine gq_iconst (pc := 10) dX12_ofWearer_10 kc_4 ?_
    refine gq_rS3i (pc := 11) dX12_ofWearer_11 cs_X12_41 (k_in _ _ _) ⟨by decide, by decide⟩ (Nat.le_of_ble_eq_true rfl) ?_
    refine gq_if_ne (pc := 14) 24 dX12_ofWearer_14 (by decide) (fun h_14 => ?_) (fun h_14 => ?_)
    · refine gq_iload_n (pc := 24) dX12_ofWearer_24 rfl ?_
      refine gq_iconst (pc := 25) dX12_ofWearer_25 kc_4 ?_
      refine gq_ic_ge (pc := 26) 38 dX12_ofWearer_26 (by decide) (fun h_26 => ?_) (fun h_26 => ?_)
      · exact absurd h_26 (by decide)
      · refine gq_aload_n (pc := 29) dX12_ofWearer_29 rfl ?_
        refine gq_iload_n (pc := 30) dX12_ofWearer_30 rfl ?_
        refine gq_iload_n (pc := 31) dX12_ofWearer_31 rfl ?_
        refine gq_rV2i (pc := 32) dX12_ofWearer_32 cv_X12_63 sh_76 (k_ones hw kl_3 (by omega)) ⟨by decide, by decide⟩ rfl rfl (Nat.le_of_ble_eq_true rfl) ?_
        refine gq_goto (pc := 35) 43 dX12_ofWearer_35 (by decide) ?_
        exact gq_iret (pc := 43) rfl dX12_ofWearer_43 ⟨rfl, rfl⟩
    · exact absurd h_14 (by decide)
set_option maxHeartbeats 400000 in
theorem m_ofWearer_ok4 {w : Int32} {i V : Nat} (hI : p_inv c r) (hw : w = nI i) (hi : i < V) (hV : V ≤ 6) (e3 : r 3 = nI V) : ge_N X ge_SH YX12_ofWearer 43 [.ref (ge_ad X.1 76), .int w, .int 4] (ge_m g r f) (some (.int (p_heeded r i))) (ge_m g r f) := by
  refine gq_ofB (l := [(0, .ref (ge_ad X.1 76)), (1, .int w), (2, .int 4)]) (by decide) (Nat.le_of_ble_eq_true rfl) rfl ?_
  refine gq_aload_n (pc := 0) dX12_ofWearer_0 rfl ?_
  refine gq_iload_n (pc := 1) dX12_ofWearer_1 rfl ?_
  refine gq_rV1i (pc := 2) dX12_ofWearer_2 cv_X12_84 sh_76 (k_isWearer _) ⟨by decide, by decide⟩ rfl rfl (Nat.le_of_ble_eq_true rfl) ?_
  refine gq_if_eq (pc := 5) 17 dX12_ofWearer_5 (by decide) (fun h_5 => ?_) (fun h_5 => ?_)
  · exact absurd h_5 (p_in_E hw hi (by omega) e3)
  · refine gq_iload_n (pc := 8) dX12_ofWearer_8 rfl ?_
    refine gq_iconst (pc := 9) dX12_ofWearer_9 kc_0 ?_
    refine gq_iconst (pc := 10) dX12_ofWearer_10 kc_4 ?_
    refine gq_rS3i (pc := 11) dX12_ofWearer_11 cs_X12_41 (k_in _ _ _) ⟨by decide, by decide⟩ (Nat.le_of_ble_eq_true rfl) ?_
    refine gq_if_ne (pc := 14) 24 dX12_ofWearer_14 (by decide) (fun h_14 => ?_) (fun h_14 => ?_)
    · refine gq_iload_n (pc := 24) dX12_ofWearer_24 rfl ?_
      refine gq_iconst (pc := 25) dX12_ofWearer_25 kc_4 ?_
      refine gq_ic_ge (pc := 26) 38 dX12_ofWearer_26 (by decide) (fun h_26 => ?_) (fun h_26 => ?_)
      · refine gq_aload_n (pc := 38) dX12_ofWearer_38 rfl ?_
        refine gq_iload_n (pc := 39) dX12_ofWearer_39 rfl ?_
        refine gq_rV1i (pc := 40) dX12_ofWearer_40 cv_X12_87 sh_76 (k_heeded hI hw (by omega) (p_e1_eo (p_inv_e1 hI e3 hV hi (by omega))) (p_e1_eo (p_inv_e1 hI e3 hV hi (by omega)))) ⟨by decide, by decide⟩ rfl rfl (Nat.le_of_ble_eq_true rfl) ?_
        exact gq_iret (pc := 43) rfl dX12_ofWearer_43 ⟨rfl, rfl⟩
      · exact absurd h_26 (by decide)
    · exact absurd h_14 (by decide)
set_option maxHeartbeats 400000 in
theorem m_ofWearer_er {w k : Int32} (h : p_in w 0 (r 3 - 1) = 0 ∨ p_in k 0 4 = 0) : ge_N X ge_SH YX12_ofWearer 43 [.ref (ge_ad X.1 76), .int w, .int k] (ge_m g r f) (some (.int (-1000000001))) (ge_m (ge_up g 81 1 (g 81 1 + 1)) r f) := by
  refine gq_ofB (l := [(0, .ref (ge_ad X.1 76)), (1, .int w), (2, .int k)]) (by decide) (Nat.le_of_ble_eq_true rfl) rfl ?_
  refine gq_aload_n (pc := 0) dX12_ofWearer_0 rfl ?_
  refine gq_iload_n (pc := 1) dX12_ofWearer_1 rfl ?_
  refine gq_rV1i (pc := 2) dX12_ofWearer_2 cv_X12_84 sh_76 (k_isWearer _) ⟨by decide, by decide⟩ rfl rfl (Nat.le_of_ble_eq_true rfl) ?_
  refine gq_if_eq (pc := 5) 17 dX12_ofWearer_5 (by decide) (fun h_5 => ?_) (fun h_5 => ?_)
  · refine gq_aload_n (pc := 17) dX12_ofWearer_17 rfl ?_
    refine gq_ldc (pc := 18) dX12_ofWearer_18 kn_X12_53 ?_
    refine gq_rV1i (pc := 20) dX12_ofWearer_20 cv_X12_54 sh_76 (k_errs (j := 1) (by decide) (by decide)) ⟨by decide, by decide⟩ rfl rfl (Nat.le_of_ble_eq_true rfl) ?_
    exact gq_iret (pc := 23) rfl dX12_ofWearer_23 ⟨rfl, rfl⟩
  · refine gq_iload_n (pc := 8) dX12_ofWearer_8 rfl ?_
    refine gq_iconst (pc := 9) dX12_ofWearer_9 kc_0 ?_
    refine gq_iconst (pc := 10) dX12_ofWearer_10 kc_4 ?_
    refine gq_rS3i (pc := 11) dX12_ofWearer_11 cs_X12_41 (k_in _ _ _) ⟨by decide, by decide⟩ (Nat.le_of_ble_eq_true rfl) ?_
    refine gq_if_ne (pc := 14) 24 dX12_ofWearer_14 (by decide) (fun h_14 => ?_) (fun h_14 => ?_)
    · exact (h.elim h_5 h_14).elim
    · refine gq_aload_n (pc := 17) dX12_ofWearer_17 rfl ?_
      refine gq_ldc (pc := 18) dX12_ofWearer_18 kn_X12_53 ?_
      refine gq_rV1i (pc := 20) dX12_ofWearer_20 cv_X12_54 sh_76 (k_errs (j := 1) (by decide) (by decide)) ⟨by decide, by decide⟩ rfl rfl (Nat.le_of_ble_eq_true rfl) ?_
      exact gq_iret (pc := 23) rfl dX12_ofWearer_23 ⟨rfl, rfl⟩
set_option maxHeartbeats 400000 in
theorem m_wear_ok {w s e : Int32} {i k V E : Nat} (hw : w = nI i) (hi : i < V) (hV : V ≤ 6) (e3 : r 3 = nI V) (hs : s = nI k) (hk : k ≤ 1) (he : e = -1 ∨ ∃ j, j < E ∧ e = nI j) (hE : E ≤ 8) (e2 : r 2 = nI E) : ge_N X ge_SH YX12_wear 2 [.ref (ge_ad X.1 76), .int w, .int s, .int e] (ge_m g r f) (some (.int (p_o r i k))) (ge_m g (p_come r i k e) f) := by
  refine gq_ofB (l := [(0, .ref (ge_ad X.1 76)), (1, .int w), (2, .int s), (3, .int e)]) (by decide) (Nat.le_of_ble_eq_true rfl) rfl ?_
  refine gq_aload_n (pc := 0) dX12_wear_0 rfl ?_
  refine gq_iload_n (pc := 1) dX12_wear_1 rfl ?_
  refine gq_rV1i (pc := 2) dX12_wear_2 cv_X12_84 sh_76 (k_isWearer _) ⟨by decide, by decide⟩ rfl rfl (Nat.le_of_ble_eq_true rfl) ?_
  refine gq_if_eq (pc := 5) 30 dX12_wear_5 (by decide) (fun h_5 => ?_) (fun h_5 => ?_)
  · exact absurd h_5 (p_in_E hw hi (by omega) e3)
  · refine gq_iload_n (pc := 8) dX12_wear_8 rfl ?_
    refine gq_iconst (pc := 9) dX12_wear_9 kc_0 ?_
    refine gq_iconst (pc := 10) dX12_wear_10 kc_1 ?_
    refine gq_rS3i (pc := 11) dX12_wear_11 cs_X12_41 (k_in _ _ _) ⟨by decide, by decide⟩ (Nat.le_of_ble_eq_true rfl) ?_
    refine gq_if_eq (pc := 14) 30 dX12_wear_14 (by decide) (fun h_14 => ?_) (fun h_14 => ?_)
    · exact absurd h_14 (p_in_le (N := 1) hs hk (by decide))
    · refine gq_iload_n (pc := 17) dX12_wear_17 rfl ?_
      refine gq_iconst (pc := 18) dX12_wear_18 kc_m1 ?_
      refine gq_ic_eq (pc := 19) 37 dX12_wear_19 (by decide) (fun h_19 => ?_) (fun h_19 => ?_)
      · refine gq_aload_n (pc := 37) dX12_wear_37 rfl ?_
        refine gq_iload_n (pc := 38) dX12_wear_38 rfl ?_
        refine gq_iload_n (pc := 39) dX12_wear_39 rfl ?_
        refine gq_rV2i (pc := 40) dX12_wear_40 cv_X12_63 sh_76 (k_ones hw hs (by omega)) ⟨by decide, by decide⟩ rfl rfl (Nat.le_of_ble_eq_true rfl) ?_
        refine gq_istore (pc := 43) (l' := [(4, _), (0, _), (1, _), (2, _), (3, _)]) dX12_wear_43 (by decide) rfl ?_
        refine gq_aload_n (pc := 45) dX12_wear_45 rfl ?_
        refine gq_iload_n (pc := 46) dX12_wear_46 rfl ?_
        refine gq_iload_n (pc := 47) dX12_wear_47 rfl ?_
        refine gq_iload_n (pc := 48) dX12_wear_48 rfl ?_
        refine gq_rV3v (pc := 49) dX12_wear_49 cv_X12_90 sh_76 (k_comes hV e3 hw hs (by omega) (by omega)) ⟨by decide, by decide⟩ rfl rfl (Nat.le_of_ble_eq_true rfl) ?_
        refine gq_iload (pc := 52) dX12_wear_52 rfl ?_
        exact gq_iret (pc := 54) rfl dX12_wear_54 ⟨rfl, rfl⟩
      · refine gq_aload_n (pc := 22) dX12_wear_22 rfl ?_
        refine gq_iload_n (pc := 23) dX12_wear_23 rfl ?_
        refine gq_rV1i (pc := 24) dX12_wear_24 cv_X12_66 sh_76 (k_isEye _) ⟨by decide, by decide⟩ rfl rfl (Nat.le_of_ble_eq_true rfl) ?_
        refine gq_if_ne (pc := 27) 37 dX12_wear_27 (by decide) (fun h_27 => ?_) (fun h_27 => ?_)
        · refine gq_aload_n (pc := 37) dX12_wear_37 rfl ?_
          refine gq_iload_n (pc := 38) dX12_wear_38 rfl ?_
          refine gq_iload_n (pc := 39) dX12_wear_39 rfl ?_
          refine gq_rV2i (pc := 40) dX12_wear_40 cv_X12_63 sh_76 (k_ones hw hs (by omega)) ⟨by decide, by decide⟩ rfl rfl (Nat.le_of_ble_eq_true rfl) ?_
          refine gq_istore (pc := 43) (l' := [(4, _), (0, _), (1, _), (2, _), (3, _)]) dX12_wear_43 (by decide) rfl ?_
          refine gq_aload_n (pc := 45) dX12_wear_45 rfl ?_
          refine gq_iload_n (pc := 46) dX12_wear_46 rfl ?_
          refine gq_iload_n (pc := 47) dX12_wear_47 rfl ?_
          refine gq_iload_n (pc := 48) dX12_wear_48 rfl ?_
          refine gq_rV3v (pc := 49) dX12_wear_49 cv_X12_90 sh_76 (k_comes hV e3 hw hs (by omega) (by omega)) ⟨by decide, by decide⟩ rfl rfl (Nat.le_of_ble_eq_true rfl) ?_
          refine gq_iload (pc := 52) dX12_wear_52 rfl ?_
          exact gq_iret (pc := 54) rfl dX12_wear_54 ⟨rfl, rfl⟩
        · exact absurd h_27 (by obtain ⟨j, hj, ej⟩ := he.resolve_left h_19; exact p_in_E ej hj (by omega) e2)
set_option maxHeartbeats 400000 in
theorem m_wear_er {w s e : Int32} (h : p_in w 0 (r 3 - 1) = 0 ∨ p_in s 0 1 = 0 ∨ (¬ e = -1 ∧ p_in e 0 (r 2 - 1) = 0)) : ge_N X ge_SH YX12_wear 2 [.ref (ge_ad X.1 76), .int w, .int s, .int e] (ge_m g r f) (some (.int (-1000000001))) (ge_m (ge_up g 81 1 (g 81 1 + 1)) r f) := by
  refine gq_ofB (l := [(0, .ref (ge_ad X.1 76)), (1, .int w), (2, .int s), (3, .int e)]) (by decide) (Nat.le_of_ble_eq_true rfl) rfl ?_
  refine gq_aload_n (pc := 0) dX12_wear_0 rfl ?_
  refine gq_iload_n (pc := 1) dX12_wear_1 rfl ?_
  refine gq_rV1i (pc := 2) dX12_wear_2 cv_X12_84 sh_76 (k_isWearer _) ⟨by decide, by decide⟩ rfl rfl (Nat.le_of_ble_eq_true rfl) ?_
  refine gq_if_eq (pc := 5) 30 dX12_wear_5 (by decide) (fun h_5 => ?_) (fun h_5 => ?_)
  · refine gq_aload_n (pc := 30) dX12_wear_30 rfl ?_
    refine gq_ldc (pc := 31) dX12_wear_31 kn_X12_53 ?_
    refine gq_rV1i (pc := 33) dX12_wear_33 cv_X12_54 sh_76 (k_errs (j := 1) (by decide) (by decide)) ⟨by decide, by decide⟩ rfl rfl (Nat.le_of_ble_eq_true rfl) ?_
    exact gq_iret (pc := 36) rfl dX12_wear_36 ⟨rfl, rfl⟩
  · refine gq_iload_n (pc := 8) dX12_wear_8 rfl ?_
    refine gq_iconst (pc := 9) dX12_wear_9 kc_0 ?_
    refine gq_iconst (pc := 10) dX12_wear_10 kc_1 ?_
    refine gq_rS3i (pc := 11) dX12_wear_11 cs_X12_41 (k_in _ _ _) ⟨by decide, by decide⟩ (Nat.le_of_ble_eq_true rfl) ?_
    refine gq_if_eq (pc := 14) 30 dX12_wear_14 (by decide) (fun h_14 => ?_) (fun h_14 => ?_)
    · refine gq_aload_n (pc := 30) dX12_wear_30 rfl ?_
      refine gq_ldc (pc := 31) dX12_wear_31 kn_X12_53 ?_
      refine gq_rV1i (pc := 33) dX12_wear_33 cv_X12_54 sh_76 (k_errs (j := 1) (by decide) (by decide)) ⟨by decide, by decide⟩ rfl rfl (Nat.le_of_ble_eq_true rfl) ?_
      exact gq_iret (pc := 36) rfl dX12_wear_36 ⟨rfl, rfl⟩
    · refine gq_iload_n (pc := 17) dX12_wear_17 rfl ?_
      refine gq_iconst (pc := 18) dX12_wear_18 kc_m1 ?_
      refine gq_ic_eq (pc := 19) 37 dX12_wear_19 (by decide) (fun h_19 => ?_) (fun h_19 => ?_)
      · exact (h.elim h_5 (fun z => z.elim h_14 (fun q => q.1 h_19))).elim
      · refine gq_aload_n (pc := 22) dX12_wear_22 rfl ?_
        refine gq_iload_n (pc := 23) dX12_wear_23 rfl ?_
        refine gq_rV1i (pc := 24) dX12_wear_24 cv_X12_66 sh_76 (k_isEye _) ⟨by decide, by decide⟩ rfl rfl (Nat.le_of_ble_eq_true rfl) ?_
        refine gq_if_ne (pc := 27) 37 dX12_wear_27 (by decide) (fun h_27 => ?_) (fun h_27 => ?_)
        · exact (h.elim h_5 (fun z => z.elim h_14 (fun q => h_27 q.2))).elim
        · refine gq_aload_n (pc := 30) dX12_wear_30 rfl ?_
          refine gq_ldc (pc := 31) dX12_wear_31 kn_X12_53 ?_
          refine gq_rV1i (pc := 33) dX12_wear_33 cv_X12_54 sh_76 (k_errs (j := 1) (by decide) (by decide)) ⟨by decide, by decide⟩ rfl rfl (Nat.le_of_ble_eq_true rfl) ?_
          exact gq_iret (pc := 36) rfl dX12_wear_36 ⟨rfl, rfl⟩
set_option maxHeartbeats 400000 in
theorem m_become_ok {e k : Int32} {j a E : Nat} (he : e = nI j) (hj : j < E) (hE : E ≤ 8) (e2 : r 2 = nI E) (ha : k = nI a) (ha2 : a ≤ 69) : ge_N X ge_SH YX12_become 2 [.ref (ge_ad X.1 76), .int e, .int k] (ge_m g r f) (some (.int (p_e r j 0))) (ge_m g (upd (p_ue r j 1 (p_rem k 10)) (18 + 4 * j) (k / 10)) f) := by
  refine gq_ofB (l := [(0, .ref (ge_ad X.1 76)), (1, .int e), (2, .int k)]) (by decide) (Nat.le_of_ble_eq_true rfl) rfl ?_
  refine gq_aload_n (pc := 0) dX12_become_0 rfl ?_
  refine gq_iload_n (pc := 1) dX12_become_1 rfl ?_
  refine gq_rV1i (pc := 2) dX12_become_2 cv_X12_66 sh_76 (k_isEye _) ⟨by decide, by decide⟩ rfl rfl (Nat.le_of_ble_eq_true rfl) ?_
  refine gq_if_eq (pc := 5) 18 dX12_become_5 (by decide) (fun h_5 => ?_) (fun h_5 => ?_)
  · exact absurd h_5 (p_in_E he hj (by omega) e2)
  · refine gq_iload_n (pc := 8) dX12_become_8 rfl ?_
    refine gq_iconst (pc := 9) dX12_become_9 kc_0 ?_
    refine gq_bipush (pc := 10) dX12_become_10 kb_69 ?_
    refine gq_rS3i (pc := 12) dX12_become_12 cs_X12_41 (k_in _ _ _) ⟨by decide, by decide⟩ (Nat.le_of_ble_eq_true rfl) ?_
    refine gq_if_ne (pc := 15) 25 dX12_become_15 (by decide) (fun h_15 => ?_) (fun h_15 => ?_)
    · refine gq_aload_n (pc := 25) dX12_become_25 rfl ?_
      refine gq_iload_n (pc := 26) dX12_become_26 rfl ?_
      refine gq_iconst (pc := 27) dX12_become_27 kc_1 ?_
      refine gq_iload_n (pc := 28) dX12_become_28 rfl ?_
      refine gq_bipush (pc := 29) dX12_become_29 kb_10 ?_
      refine gq_irem (pc := 31) dX12_become_31 (by decide) (rfl : _ = p_rem _ _) ?_
      refine gq_rV3v (pc := 32) dX12_become_32 cv_X12_59 sh_76 (k_gets he kl_1 (by omega)) ⟨by decide, by decide⟩ rfl rfl (Nat.le_of_ble_eq_true rfl) ?_
      refine gq_aload_n (pc := 35) dX12_become_35 rfl ?_
      refine gq_bipush (pc := 36) dX12_become_36 kb_18 ?_
      refine gq_iconst (pc := 38) dX12_become_38 kc_4 ?_
      refine gq_iload_n (pc := 39) dX12_become_39 rfl ?_
      refine gq_imul (pc := 40) dX12_become_40 ?_
      refine gq_iadd (pc := 41) dX12_become_41 ?_
      refine gq_iload_n (pc := 42) dX12_become_42 rfl ?_
      refine gq_bipush (pc := 43) dX12_become_43 kb_10 ?_
      refine gq_idiv (pc := 45) dX12_become_45 (by decide) ?_
      refine gq_rV2i (pc := 46) dX12_become_46 cv_X12_49 sh_76 (k_becomes (ge_nadd kl_18 (ge_nmul kl_4 he)) (by omega)) ⟨by decide, by decide⟩ rfl rfl (Nat.le_of_ble_eq_true rfl) ?_
      exact gq_iret (pc := 49) rfl dX12_become_49 ⟨by show some (Value.int (p_ue r j 1 (p_rem k 10) (18 + 4 * j))) = _; unfold p_ue p_e upd; rw [if_neg (by omega)]; rfl, rfl⟩
    · exact absurd h_15 (p_in_le (N := 69) ha ha2 (by decide))
set_option maxHeartbeats 400000 in
theorem m_become_er {e k : Int32} (h : p_in e 0 (r 2 - 1) = 0 ∨ p_in k 0 69 = 0) : ge_N X ge_SH YX12_become 2 [.ref (ge_ad X.1 76), .int e, .int k] (ge_m g r f) (some (.int (-1000000001))) (ge_m (ge_up g 81 1 (g 81 1 + 1)) r f) := by
  refine gq_ofB (l := [(0, .ref (ge_ad X.1 76)), (1, .int e), (2, .int k)]) (by decide) (Nat.le_of_ble_eq_true rfl) rfl ?_
  refine gq_aload_n (pc := 0) dX12_become_0 rfl ?_
  refine gq_iload_n (pc := 1) dX12_become_1 rfl ?_
  refine gq_rV1i (pc := 2) dX12_become_2 cv_X12_66 sh_76 (k_isEye _) ⟨by decide, by decide⟩ rfl rfl (Nat.le_of_ble_eq_true rfl) ?_
  refine gq_if_eq (pc := 5) 18 dX12_become_5 (by decide) (fun h_5 => ?_) (fun h_5 => ?_)
  · refine gq_aload_n (pc := 18) dX12_become_18 rfl ?_
    refine gq_ldc (pc := 19) dX12_become_19 kn_X12_53 ?_
    refine gq_rV1i (pc := 21) dX12_become_21 cv_X12_54 sh_76 (k_errs (j := 1) (by decide) (by decide)) ⟨by decide, by decide⟩ rfl rfl (Nat.le_of_ble_eq_true rfl) ?_
    exact gq_iret (pc := 24) rfl dX12_become_24 ⟨rfl, rfl⟩
  · refine gq_iload_n (pc := 8) dX12_become_8 rfl ?_
    refine gq_iconst (pc := 9) dX12_become_9 kc_0 ?_
    refine gq_bipush (pc := 10) dX12_become_10 kb_69 ?_
    refine gq_rS3i (pc := 12) dX12_become_12 cs_X12_41 (k_in _ _ _) ⟨by decide, by decide⟩ (Nat.le_of_ble_eq_true rfl) ?_
    refine gq_if_ne (pc := 15) 25 dX12_become_15 (by decide) (fun h_15 => ?_) (fun h_15 => ?_)
    · exact (h.elim h_5 h_15).elim
    · refine gq_aload_n (pc := 18) dX12_become_18 rfl ?_
      refine gq_ldc (pc := 19) dX12_become_19 kn_X12_53 ?_
      refine gq_rV1i (pc := 21) dX12_become_21 cv_X12_54 sh_76 (k_errs (j := 1) (by decide) (by decide)) ⟨by decide, by decide⟩ rfl rfl (Nat.le_of_ble_eq_true rfl) ?_
      exact gq_iret (pc := 24) rfl dX12_become_24 ⟨rfl, rfl⟩
set_option maxHeartbeats 400000 in
theorem m_law_ok0 {A B C : Int32} (hI : p_inv c r) : ge_N X ge_SH YX12_law 41 [.ref (ge_ad X.1 76), .int 0, .int A, .int B, .int C] (ge_m g r f) (some (.int (p_law r 0 A B C))) (ge_m g r f) := by
  refine gq_ofB (l := [(0, .ref (ge_ad X.1 76)), (1, .int 0), (2, .int A), (3, .int B), (4, .int C)]) (by decide) (Nat.le_of_ble_eq_true rfl) rfl ?_
  refine gq_iload_n (pc := 0) dX12_law_0 rfl ?_
  refine gq_iconst (pc := 1) dX12_law_1 kc_0 ?_
  refine gq_iconst (pc := 2) dX12_law_2 kc_1 ?_
  refine gq_rS3i (pc := 3) dX12_law_3 cs_X12_41 (k_in _ _ _) ⟨by decide, by decide⟩ (Nat.le_of_ble_eq_true rfl) ?_
  refine gq_if_eq (pc := 6) 21 dX12_law_6 (by decide) (fun h_6 => ?_) (fun h_6 => ?_)
  · exact absurd h_6 (by decide)
  · refine gq_aload_n (pc := 9) dX12_law_9 rfl ?_
    refine gq_iload_n (pc := 10) dX12_law_10 rfl ?_
    refine gq_iload_n (pc := 11) dX12_law_11 rfl ?_
    refine gq_iload_n (pc := 12) dX12_law_12 rfl ?_
    refine gq_iload (pc := 13) dX12_law_13 rfl ?_
    refine gq_rV4i (pc := 15) dX12_law_15 cv_X12_165 sh_76 (k_lawOf kl_0 (by decide) hI.1) ⟨by decide, by decide⟩ rfl rfl (Nat.le_of_ble_eq_true rfl) ?_
    refine gq_goto (pc := 18) 27 dX12_law_18 (by decide) ?_
    exact gq_iret (pc := 27) rfl dX12_law_27 ⟨rfl, rfl⟩
set_option maxHeartbeats 400000 in
theorem m_law_ok1 {A B C : Int32} (hI : p_inv c r) : ge_N X ge_SH YX12_law 41 [.ref (ge_ad X.1 76), .int 1, .int A, .int B, .int C] (ge_m g r f) (some (.int (p_law r 1 A B C))) (ge_m g r f) := by
  refine gq_ofB (l := [(0, .ref (ge_ad X.1 76)), (1, .int 1), (2, .int A), (3, .int B), (4, .int C)]) (by decide) (Nat.le_of_ble_eq_true rfl) rfl ?_
  refine gq_iload_n (pc := 0) dX12_law_0 rfl ?_
  refine gq_iconst (pc := 1) dX12_law_1 kc_0 ?_
  refine gq_iconst (pc := 2) dX12_law_2 kc_1 ?_
  refine gq_rS3i (pc := 3) dX12_law_3 cs_X12_41 (k_in _ _ _) ⟨by decide, by decide⟩ (Nat.le_of_ble_eq_true rfl) ?_
  refine gq_if_eq (pc := 6) 21 dX12_law_6 (by decide) (fun h_6 => ?_) (fun h_6 => ?_)
  · exact absurd h_6 (by decide)
  · refine gq_aload_n (pc := 9) dX12_law_9 rfl ?_
    refine gq_iload_n (pc := 10) dX12_law_10 rfl ?_
    refine gq_iload_n (pc := 11) dX12_law_11 rfl ?_
    refine gq_iload_n (pc := 12) dX12_law_12 rfl ?_
    refine gq_iload (pc := 13) dX12_law_13 rfl ?_
    refine gq_rV4i (pc := 15) dX12_law_15 cv_X12_165 sh_76 (k_lawOf kl_1 (by decide) hI.2.1) ⟨by decide, by decide⟩ rfl rfl (Nat.le_of_ble_eq_true rfl) ?_
    refine gq_goto (pc := 18) 27 dX12_law_18 (by decide) ?_
    exact gq_iret (pc := 27) rfl dX12_law_27 ⟨rfl, rfl⟩
set_option maxHeartbeats 400000 in
theorem m_law_er {w A B C : Int32} (h : p_in w 0 1 = 0) : ge_N X ge_SH YX12_law 41 [.ref (ge_ad X.1 76), .int w, .int A, .int B, .int C] (ge_m g r f) (some (.int (-1000000001))) (ge_m (ge_up g 81 1 (g 81 1 + 1)) r f) := by
  refine gq_ofB (l := [(0, .ref (ge_ad X.1 76)), (1, .int w), (2, .int A), (3, .int B), (4, .int C)]) (by decide) (Nat.le_of_ble_eq_true rfl) rfl ?_
  refine gq_iload_n (pc := 0) dX12_law_0 rfl ?_
  refine gq_iconst (pc := 1) dX12_law_1 kc_0 ?_
  refine gq_iconst (pc := 2) dX12_law_2 kc_1 ?_
  refine gq_rS3i (pc := 3) dX12_law_3 cs_X12_41 (k_in _ _ _) ⟨by decide, by decide⟩ (Nat.le_of_ble_eq_true rfl) ?_
  refine gq_if_eq (pc := 6) 21 dX12_law_6 (by decide) (fun h_6 => ?_) (fun h_6 => ?_)
  · refine gq_aload_n (pc := 21) dX12_law_21 rfl ?_
    refine gq_ldc (pc := 22) dX12_law_22 kn_X12_53 ?_
    refine gq_rV1i (pc := 24) dX12_law_24 cv_X12_54 sh_76 (k_errs (j := 1) (by decide) (by decide)) ⟨by decide, by decide⟩ rfl rfl (Nat.le_of_ble_eq_true rfl) ?_
    exact gq_iret (pc := 27) rfl dX12_law_27 ⟨rfl, rfl⟩
  · exact absurd h h_6
set_option maxHeartbeats 400000 in
theorem m_hours_ok {n : Int32} {N : Nat} (hN : n = nI N) (h1 : 1 ≤ N) (h2 : N ≤ 60) (hI : p_inv (c + N) r) (hh : r 0 + n ≤ 9999) : ge_N X ge_SH YX12_hours 45 [.ref (ge_ad X.1 76), .int n] (ge_m g r f) (some (.int (nI (p_outs r N)))) (ge_m g (p_hrs r N) (p_tb f (p_pt f r N) (p_pb f r N))) := by
  refine gq_ofB (l := [(0, .ref (ge_ad X.1 76)), (1, .int n)]) (by decide) (Nat.le_of_ble_eq_true rfl) rfl ?_
  refine gq_iload_n (pc := 0) dX12_hours_0 rfl ?_
  refine gq_iconst (pc := 1) dX12_hours_1 kc_1 ?_
  refine gq_bipush (pc := 2) dX12_hours_2 kb_60 ?_
  refine gq_rS3i (pc := 4) dX12_hours_4 cs_X12_41 (k_in _ _ _) ⟨by decide, by decide⟩ (Nat.le_of_ble_eq_true rfl) ?_
  refine gq_if_ne (pc := 7) 17 dX12_hours_7 (by decide) (fun h_7 => ?_) (fun h_7 => ?_)
  · refine gq_aload_n (pc := 17) dX12_hours_17 rfl ?_
    refine gq_getr (pc := 18) dX12_hours_18 fl_X12_7_12 sh_76 rfl ?_
    refine gq_iconst (pc := 21) dX12_hours_21 kc_0 ?_
    refine qm_ald (pc := 22) dX12_hours_22 kl_0 (by first | decide | omega) ?_
    refine gq_iload_n (pc := 23) dX12_hours_23 rfl ?_
    refine gq_iadd (pc := 24) dX12_hours_24 ?_
    refine gq_sipush (pc := 25) dX12_hours_25 kq_9999 ?_
    refine gq_ic_le (pc := 28) 40 dX12_hours_28 (by decide) (fun h_28 => ?_) (fun h_28 => ?_)
    · refine gq_aload_n (pc := 40) dX12_hours_40 rfl ?_
      refine gq_iload_n (pc := 41) dX12_hours_41 rfl ?_
      refine gq_rV1i (pc := 42) dX12_hours_42 cv_X12_195 sh_76 (k_passes hN (by omega) hI) ⟨by decide, by decide⟩ rfl rfl (Nat.le_of_ble_eq_true rfl) ?_
      exact gq_iret (pc := 45) rfl dX12_hours_45 ⟨rfl, rfl⟩
    · exact absurd hh h_28
  · exact absurd h_7 (p_in_l1 (N := 60) hN h1 h2 (by decide))
set_option maxHeartbeats 400000 in
theorem m_hours_er {n : Int32} (h : p_in n 1 60 = 0) : ge_N X ge_SH YX12_hours 45 [.ref (ge_ad X.1 76), .int n] (ge_m g r f) (some (.int (-1000000001))) (ge_m (ge_up g 81 1 (g 81 1 + 1)) r f) := by
  refine gq_ofB (l := [(0, .ref (ge_ad X.1 76)), (1, .int n)]) (by decide) (Nat.le_of_ble_eq_true rfl) rfl ?_
  refine gq_iload_n (pc := 0) dX12_hours_0 rfl ?_
  refine gq_iconst (pc := 1) dX12_hours_1 kc_1 ?_
  refine gq_bipush (pc := 2) dX12_hours_2 kb_60 ?_
  refine gq_rS3i (pc := 4) dX12_hours_4 cs_X12_41 (k_in _ _ _) ⟨by decide, by decide⟩ (Nat.le_of_ble_eq_true rfl) ?_
  refine gq_if_ne (pc := 7) 17 dX12_hours_7 (by decide) (fun h_7 => ?_) (fun h_7 => ?_)
  · exact absurd h h_7
  · refine gq_aload_n (pc := 10) dX12_hours_10 rfl ?_
    refine gq_ldc (pc := 11) dX12_hours_11 kn_X12_53 ?_
    refine gq_rV1i (pc := 13) dX12_hours_13 cv_X12_54 sh_76 (k_errs (j := 1) (by decide) (by decide)) ⟨by decide, by decide⟩ rfl rfl (Nat.le_of_ble_eq_true rfl) ?_
    exact gq_iret (pc := 16) rfl dX12_hours_16 ⟨rfl, rfl⟩
set_option maxHeartbeats 400000 in
theorem m_hours_st {n : Int32} (h1 : ¬ p_in n 1 60 = 0) (hh : ¬ r 0 + n ≤ 9999) : ge_N X ge_SH YX12_hours 45 [.ref (ge_ad X.1 76), .int n] (ge_m g r f) (some (.int (-1000000003))) (ge_m (ge_up g 81 3 (g 81 3 + 1)) r f) := by
  refine gq_ofB (l := [(0, .ref (ge_ad X.1 76)), (1, .int n)]) (by decide) (Nat.le_of_ble_eq_true rfl) rfl ?_
  refine gq_iload_n (pc := 0) dX12_hours_0 rfl ?_
  refine gq_iconst (pc := 1) dX12_hours_1 kc_1 ?_
  refine gq_bipush (pc := 2) dX12_hours_2 kb_60 ?_
  refine gq_rS3i (pc := 4) dX12_hours_4 cs_X12_41 (k_in _ _ _) ⟨by decide, by decide⟩ (Nat.le_of_ble_eq_true rfl) ?_
  refine gq_if_ne (pc := 7) 17 dX12_hours_7 (by decide) (fun h_7 => ?_) (fun h_7 => ?_)
  · refine gq_aload_n (pc := 17) dX12_hours_17 rfl ?_
    refine gq_getr (pc := 18) dX12_hours_18 fl_X12_7_12 sh_76 rfl ?_
    refine gq_iconst (pc := 21) dX12_hours_21 kc_0 ?_
    refine qm_ald (pc := 22) dX12_hours_22 kl_0 (by first | decide | omega) ?_
    refine gq_iload_n (pc := 23) dX12_hours_23 rfl ?_
    refine gq_iadd (pc := 24) dX12_hours_24 ?_
    refine gq_sipush (pc := 25) dX12_hours_25 kq_9999 ?_
    refine gq_ic_le (pc := 28) 40 dX12_hours_28 (by decide) (fun h_28 => ?_) (fun h_28 => ?_)
    · exact absurd h_28 hh
    · refine gq_aload_n (pc := 31) dX12_hours_31 rfl ?_
      refine gq_ldc (pc := 32) dX12_hours_32 kn_X12_194 ?_
      refine gq_rV1i (pc := 34) dX12_hours_34 cv_X12_54 sh_76 (k_errs (j := 3) (by decide) (by decide)) ⟨by decide, by decide⟩ rfl rfl (Nat.le_of_ble_eq_true rfl) ?_
      refine gq_goto (pc := 37) 45 dX12_hours_37 (by decide) ?_
      exact gq_iret (pc := 45) rfl dX12_hours_45 ⟨rfl, rfl⟩
  · exact absurd h_7 h1
set_option maxHeartbeats 400000 in
theorem m_seed (v : Int32) : ge_N X ge_SH YX12_seed 0 [.ref (ge_ad X.1 76), .int v] (ge_m g r f) (some (.int (r 1))) (ge_m g (upd r 1 v) f) := by
  refine gq_ofB (l := [(0, .ref (ge_ad X.1 76)), (1, .int v)]) (by decide) (Nat.le_of_ble_eq_true rfl) rfl ?_
  refine gq_aload_n (pc := 0) dX12_seed_0 rfl ?_
  refine gq_getr (pc := 1) dX12_seed_1 fl_X12_7_12 sh_76 rfl ?_
  refine gq_iconst (pc := 4) dX12_seed_4 kc_1 ?_
  refine qm_ald (pc := 5) dX12_seed_5 kl_1 (by first | decide | omega) ?_
  refine gq_istore_n (pc := 6) (l' := [(2, _), (0, _), (1, _)]) dX12_seed_6 (by decide) rfl ?_
  refine gq_aload_n (pc := 7) dX12_seed_7 rfl ?_
  refine gq_getr (pc := 8) dX12_seed_8 fl_X12_7_12 sh_76 rfl ?_
  refine gq_iconst (pc := 11) dX12_seed_11 kc_1 ?_
  refine gq_iload_n (pc := 12) dX12_seed_12 rfl ?_
  refine qm_ast (pc := 13) dX12_seed_13 kl_1 (by first | decide | omega) ?_
  refine gq_iload_n (pc := 14) dX12_seed_14 rfl ?_
  exact gq_iret (pc := 15) rfl dX12_seed_15 ⟨rfl, rfl⟩
set_option maxHeartbeats 400000 in
theorem m_told_ok {k : Int32} {a : Nat} (ha : k = nI a) (h1 : 1 ≤ a) (h2 : a ≤ 5) : ge_N X ge_SH YX12_told 1 [.ref (ge_ad X.1 76), .int k] (ge_m g r f) (some (.int (g 81 a))) (ge_m g r f) := by
  refine gq_ofB (l := [(0, .ref (ge_ad X.1 76)), (1, .int k)]) (by decide) (Nat.le_of_ble_eq_true rfl) rfl ?_
  refine gq_iload_n (pc := 0) dX12_told_0 rfl ?_
  refine gq_iconst (pc := 1) dX12_told_1 kc_1 ?_
  refine gq_iconst (pc := 2) dX12_told_2 kc_5 ?_
  refine gq_rS3i (pc := 3) dX12_told_3 cs_X12_41 (k_in _ _ _) ⟨by decide, by decide⟩ (Nat.le_of_ble_eq_true rfl) ?_
  refine gq_if_eq (pc := 6) 18 dX12_told_6 (by decide) (fun h_6 => ?_) (fun h_6 => ?_)
  · exact absurd h_6 (p_in_l1 (N := 5) ha h1 h2 (by decide))
  · refine gq_aload_n (pc := 9) dX12_told_9 rfl ?_
    refine gq_getr (pc := 10) dX12_told_10 fl_X12_22_12 sh_76 rfl ?_
    refine gq_iload_n (pc := 13) dX12_told_13 rfl ?_
    refine qm_aldo (pc := 14) dX12_told_14 sh_81 (by decide) (by first | assumption | rfl) (by first | decide | omega) (by decide) ?_
    refine gq_goto (pc := 15) 24 dX12_told_15 (by decide) ?_
    exact gq_iret (pc := 24) rfl dX12_told_24 ⟨rfl, rfl⟩
set_option maxHeartbeats 400000 in
theorem m_told_er {k : Int32} (h : p_in k 1 5 = 0) : ge_N X ge_SH YX12_told 1 [.ref (ge_ad X.1 76), .int k] (ge_m g r f) (some (.int (-1000000001))) (ge_m (ge_up g 81 1 (g 81 1 + 1)) r f) := by
  refine gq_ofB (l := [(0, .ref (ge_ad X.1 76)), (1, .int k)]) (by decide) (Nat.le_of_ble_eq_true rfl) rfl ?_
  refine gq_iload_n (pc := 0) dX12_told_0 rfl ?_
  refine gq_iconst (pc := 1) dX12_told_1 kc_1 ?_
  refine gq_iconst (pc := 2) dX12_told_2 kc_5 ?_
  refine gq_rS3i (pc := 3) dX12_told_3 cs_X12_41 (k_in _ _ _) ⟨by decide, by decide⟩ (Nat.le_of_ble_eq_true rfl) ?_
  refine gq_if_eq (pc := 6) 18 dX12_told_6 (by decide) (fun h_6 => ?_) (fun h_6 => ?_)
  · refine gq_aload_n (pc := 18) dX12_told_18 rfl ?_
    refine gq_ldc (pc := 19) dX12_told_19 kn_X12_53 ?_
    refine gq_rV1i (pc := 21) dX12_told_21 cv_X12_54 sh_76 (k_errs (j := 1) (by decide) (by decide)) ⟨by decide, by decide⟩ rfl rfl (Nat.le_of_ble_eq_true rfl) ?_
    exact gq_iret (pc := 24) rfl dX12_told_24 ⟨rfl, rfl⟩
  · exact absurd h h_6
set_option maxHeartbeats 400000 in
theorem m_trace_ok {i : Int32} {a n : Nat} (ha : i = nI a) (h1 : a < n) (hn : n ≤ 40) (hf : f 22 = nI n) : ge_N X ge_SH YX12_trace 1 [.ref (ge_ad X.1 76), .int i] (ge_m g r f) (some (.int (g 86 a))) (ge_m g r f) := by
  refine gq_ofB (l := [(0, .ref (ge_ad X.1 76)), (1, .int i)]) (by decide) (Nat.le_of_ble_eq_true rfl) rfl ?_
  refine gq_iload_n (pc := 0) dX12_trace_0 rfl ?_
  refine gq_iconst (pc := 1) dX12_trace_1 kc_0 ?_
  refine gq_aload_n (pc := 2) dX12_trace_2 rfl ?_
  refine qm_geti (pc := 3) dX12_trace_3 fl_X12_225_12 sh_76 rfl (by decide) ?_
  refine gq_iconst (pc := 6) dX12_trace_6 kc_1 ?_
  refine gq_isub (pc := 7) dX12_trace_7 ?_
  refine gq_rS3i (pc := 8) dX12_trace_8 cs_X12_41 (k_in _ _ _) ⟨by decide, by decide⟩ (Nat.le_of_ble_eq_true rfl) ?_
  refine gq_if_eq (pc := 11) 23 dX12_trace_11 (by decide) (fun h_11 => ?_) (fun h_11 => ?_)
  · exact absurd h_11 (p_in_E ha h1 (by omega) hf)
  · refine gq_aload_n (pc := 14) dX12_trace_14 rfl ?_
    refine gq_getr (pc := 15) dX12_trace_15 fl_X12_37_12 sh_76 rfl ?_
    refine gq_iload_n (pc := 18) dX12_trace_18 rfl ?_
    refine qm_aldo (pc := 19) dX12_trace_19 sh_86 (by decide) (by first | assumption | rfl) (by first | decide | omega) (by decide) ?_
    refine gq_goto (pc := 20) 29 dX12_trace_20 (by decide) ?_
    exact gq_iret (pc := 29) rfl dX12_trace_29 ⟨rfl, rfl⟩
set_option maxHeartbeats 400000 in
theorem m_trace_er {i : Int32} (h : p_in i 0 (f 22 - 1) = 0) : ge_N X ge_SH YX12_trace 1 [.ref (ge_ad X.1 76), .int i] (ge_m g r f) (some (.int (-1000000002))) (ge_m (ge_up g 81 2 (g 81 2 + 1)) r f) := by
  refine gq_ofB (l := [(0, .ref (ge_ad X.1 76)), (1, .int i)]) (by decide) (Nat.le_of_ble_eq_true rfl) rfl ?_
  refine gq_iload_n (pc := 0) dX12_trace_0 rfl ?_
  refine gq_iconst (pc := 1) dX12_trace_1 kc_0 ?_
  refine gq_aload_n (pc := 2) dX12_trace_2 rfl ?_
  refine qm_geti (pc := 3) dX12_trace_3 fl_X12_225_12 sh_76 rfl (by decide) ?_
  refine gq_iconst (pc := 6) dX12_trace_6 kc_1 ?_
  refine gq_isub (pc := 7) dX12_trace_7 ?_
  refine gq_rS3i (pc := 8) dX12_trace_8 cs_X12_41 (k_in _ _ _) ⟨by decide, by decide⟩ (Nat.le_of_ble_eq_true rfl) ?_
  refine gq_if_eq (pc := 11) 23 dX12_trace_11 (by decide) (fun h_11 => ?_) (fun h_11 => ?_)
  · refine gq_aload_n (pc := 23) dX12_trace_23 rfl ?_
    refine gq_ldc (pc := 24) dX12_trace_24 kn_X12_202 ?_
    refine gq_rV1i (pc := 26) dX12_trace_26 cv_X12_54 sh_76 (k_errs (j := 2) (by decide) (by decide)) ⟨by decide, by decide⟩ rfl rfl (Nat.le_of_ble_eq_true rfl) ?_
    exact gq_iret (pc := 29) rfl dX12_trace_29 ⟨rfl, rfl⟩
  · exact absurd h h_11
set_option maxHeartbeats 400000 in
theorem m_tell_ok {v : Int32} {n : Nat} (hn : n < 20) (e5 : r 5 = nI n) : ge_N X ge_SH YX12_tell 1 [.ref (ge_ad X.1 76), .int v] (ge_m g r f) (some (.int (nI (n + 1)))) (ge_m g (upd (upd r (124 + n) v) 5 (nI (n + 1))) f) := by
  refine gq_ofB (l := [(0, .ref (ge_ad X.1 76)), (1, .int v)]) (by decide) (Nat.le_of_ble_eq_true rfl) rfl ?_
  refine gq_aload_n (pc := 0) dX12_tell_0 rfl ?_
  refine gq_getr (pc := 1) dX12_tell_1 fl_X12_7_12 sh_76 rfl ?_
  refine gq_iconst (pc := 4) dX12_tell_4 kc_5 ?_
  refine qm_ald (pc := 5) dX12_tell_5 kl_5 (by first | decide | omega) ?_
  refine gq_bipush (pc := 6) dX12_tell_6 kb_20 ?_
  refine gq_ic_ne (pc := 8) 18 dX12_tell_8 (by decide) (fun h_8 => ?_) (fun h_8 => ?_)
  · refine gq_aload_n (pc := 18) dX12_tell_18 rfl ?_
    refine gq_getr (pc := 19) dX12_tell_19 fl_X12_7_12 sh_76 rfl ?_
    refine gq_bipush (pc := 22) dX12_tell_22 kb_124 ?_
    refine gq_aload_n (pc := 24) dX12_tell_24 rfl ?_
    refine gq_getr (pc := 25) dX12_tell_25 fl_X12_7_12 sh_76 rfl ?_
    refine gq_iconst (pc := 28) dX12_tell_28 kc_5 ?_
    refine qm_ald (pc := 29) dX12_tell_29 kl_5 (by first | decide | omega) ?_
    refine gq_iadd (pc := 30) dX12_tell_30 ?_
    refine gq_iload_n (pc := 31) dX12_tell_31 rfl ?_
    refine qm_ast (pc := 32) dX12_tell_32 (ge_nadd kl_124 e5) (by first | decide | omega) ?_
    refine gq_aload_n (pc := 33) dX12_tell_33 rfl ?_
    refine gq_getr (pc := 34) dX12_tell_34 fl_X12_7_12 sh_76 rfl ?_
    refine gq_iconst (pc := 37) dX12_tell_37 kc_5 ?_
    refine gq_dup2 (pc := 38) dX12_tell_38 rfl rfl ?_
    refine qm_ald (pc := 39) dX12_tell_39 kl_5 (by first | decide | omega) ?_
    rw [show upd r (124 + n) v 5 = nI n from by unfold upd; rw [if_neg (by omega)]; exact e5]
    refine gq_iconst (pc := 40) dX12_tell_40 kc_1 ?_
    refine gq_iadd (pc := 41) dX12_tell_41 ?_
    rw [nI_1]
    refine qm_ast (pc := 42) dX12_tell_42 kl_5 (by first | decide | omega) ?_
    refine gq_aload_n (pc := 43) dX12_tell_43 rfl ?_
    refine gq_getr (pc := 44) dX12_tell_44 fl_X12_7_12 sh_76 rfl ?_
    refine gq_iconst (pc := 47) dX12_tell_47 kc_5 ?_
    refine qm_ald (pc := 48) dX12_tell_48 kl_5 (by first | decide | omega) ?_
    exact gq_iret (pc := 49) rfl dX12_tell_49 ⟨rfl, rfl⟩
  · exact absurd ((nI_eq (b := 20) (by omega) (by omega)).mp (e5 ▸ h_8)) (by omega)
set_option maxHeartbeats 400000 in
theorem m_tell_er {v : Int32} (e5 : r 5 = 20) : ge_N X ge_SH YX12_tell 1 [.ref (ge_ad X.1 76), .int v] (ge_m g r f) (some (.int (-1000000004))) (ge_m (ge_up g 81 4 (g 81 4 + 1)) r f) := by
  refine gq_ofB (l := [(0, .ref (ge_ad X.1 76)), (1, .int v)]) (by decide) (Nat.le_of_ble_eq_true rfl) rfl ?_
  refine gq_aload_n (pc := 0) dX12_tell_0 rfl ?_
  refine gq_getr (pc := 1) dX12_tell_1 fl_X12_7_12 sh_76 rfl ?_
  refine gq_iconst (pc := 4) dX12_tell_4 kc_5 ?_
  refine qm_ald (pc := 5) dX12_tell_5 kl_5 (by first | decide | omega) ?_
  refine gq_bipush (pc := 6) dX12_tell_6 kb_20 ?_
  refine gq_ic_ne (pc := 8) 18 dX12_tell_8 (by decide) (fun h_8 => ?_) (fun h_8 => ?_)
  · exact absurd e5 h_8
  · refine gq_aload_n (pc := 11) dX12_tell_11 rfl ?_
    refine gq_ldc (pc := 12) dX12_tell_12 kn_X12_58 ?_
    refine gq_rV1i (pc := 14) dX12_tell_14 cv_X12_54 sh_76 (k_errs (j := 4) (by decide) (by decide)) ⟨by decide, by decide⟩ rfl rfl (Nat.le_of_ble_eq_true rfl) ?_
    exact gq_iret (pc := 17) rfl dX12_tell_17 ⟨rfl, rfl⟩
set_option maxHeartbeats 400000 in
theorem m_image  : ge_N X ge_SH YX12_image 1 [.ref (ge_ad X.1 76)] (ge_m g r f) (some (.int (f 5 + 1))) (ge_m (ge_row g 78 r) r (upd (upd f 4 1) 5 (f 5 + 1))) := by
  refine gq_ofB (l := [(0, .ref (ge_ad X.1 76))]) (by decide) (Nat.le_of_ble_eq_true rfl) rfl ?_
  refine gq_aload_n (pc := 0) dX12_image_0 rfl ?_
  refine gq_aload_n (pc := 1) dX12_image_1 rfl ?_
  refine gq_getr (pc := 2) dX12_image_2 fl_X12_7_12 sh_76 rfl ?_
  refine gq_aload_n (pc := 5) dX12_image_5 rfl ?_
  refine gq_getr (pc := 6) dX12_image_6 fl_X12_13_12 sh_76 rfl ?_
  refine gq_rV2v (pc := 9) dX12_image_9 cv_X12_170 sh_76 (k_move_to sh_78 (by decide) (by decide)) ⟨by decide, by decide⟩ rfl rfl (Nat.le_of_ble_eq_true rfl) ?_
  refine gq_aload_n (pc := 12) dX12_image_12 rfl ?_
  refine gq_iconst (pc := 13) dX12_image_13 kc_1 ?_
  refine qm_putz (pc := 14) dX12_image_14 fp_X12_255_12 sh_76 rfl ⟨rfl, rfl⟩ ?_
  refine gq_aload_n (pc := 17) dX12_image_17 rfl ?_
  refine gq_dup (pc := 18) dX12_image_18 rfl ?_
  refine qm_geti (pc := 19) dX12_image_19 fl_X12_258_12 sh_76 rfl (by decide) ?_
  refine gq_iconst (pc := 22) dX12_image_22 kc_1 ?_
  refine gq_iadd (pc := 23) dX12_image_23 ?_
  refine qm_puti (pc := 24) dX12_image_24 fp_X12_258_12 sh_76 rfl ?_
  refine gq_aload_n (pc := 27) dX12_image_27 rfl ?_
  refine qm_geti (pc := 28) dX12_image_28 fl_X12_258_12 sh_76 rfl (by decide) ?_
  exact gq_iret (pc := 31) rfl dX12_image_31 ⟨rfl, rfl⟩
set_option maxHeartbeats 400000 in
theorem m_restore_ok (h : ¬ f 4 = 0) : ge_N X ge_SH YX12_restore 1 [.ref (ge_ad X.1 76)] (ge_m g r f) (some (.int (g 78 0))) (ge_m g (g 78) f) := by
  refine gq_ofB (l := [(0, .ref (ge_ad X.1 76))]) (by decide) (Nat.le_of_ble_eq_true rfl) rfl ?_
  refine gq_aload_n (pc := 0) dX12_restore_0 rfl ?_
  refine qm_geti (pc := 1) dX12_restore_1 fl_X12_255_12 sh_76 rfl (by decide) ?_
  refine gq_if_ne (pc := 4) 14 dX12_restore_4 (by decide) (fun h_4 => ?_) (fun h_4 => ?_)
  · refine gq_aload_n (pc := 14) dX12_restore_14 rfl ?_
    refine gq_aload_n (pc := 15) dX12_restore_15 rfl ?_
    refine gq_getr (pc := 16) dX12_restore_16 fl_X12_13_12 sh_76 rfl ?_
    refine gq_aload_n (pc := 19) dX12_restore_19 rfl ?_
    refine gq_getr (pc := 20) dX12_restore_20 fl_X12_7_12 sh_76 rfl ?_
    refine gq_rV2v (pc := 23) dX12_restore_23 cv_X12_170 sh_76 (k_move_back sh_78 (by decide) (by decide) (by decide)) ⟨by decide, by decide⟩ rfl rfl (Nat.le_of_ble_eq_true rfl) ?_
    refine gq_aload_n (pc := 26) dX12_restore_26 rfl ?_
    refine gq_getr (pc := 27) dX12_restore_27 fl_X12_7_12 sh_76 rfl ?_
    refine gq_iconst (pc := 30) dX12_restore_30 kc_0 ?_
    refine qm_ald (pc := 31) dX12_restore_31 kl_0 (by first | decide | omega) ?_
    exact gq_iret (pc := 32) rfl dX12_restore_32 ⟨rfl, rfl⟩
  · exact absurd h_4 h
set_option maxHeartbeats 400000 in
theorem m_restore_er (h : f 4 = 0) : ge_N X ge_SH YX12_restore 1 [.ref (ge_ad X.1 76)] (ge_m g r f) (some (.int (-1000000002))) (ge_m (ge_up g 81 2 (g 81 2 + 1)) r f) := by
  refine gq_ofB (l := [(0, .ref (ge_ad X.1 76))]) (by decide) (Nat.le_of_ble_eq_true rfl) rfl ?_
  refine gq_aload_n (pc := 0) dX12_restore_0 rfl ?_
  refine qm_geti (pc := 1) dX12_restore_1 fl_X12_255_12 sh_76 rfl (by decide) ?_
  refine gq_if_ne (pc := 4) 14 dX12_restore_4 (by decide) (fun h_4 => ?_) (fun h_4 => ?_)
  · exact absurd h h_4
  · refine gq_aload_n (pc := 7) dX12_restore_7 rfl ?_
    refine gq_ldc (pc := 8) dX12_restore_8 kn_X12_202 ?_
    refine gq_rV1i (pc := 10) dX12_restore_10 cv_X12_54 sh_76 (k_errs (j := 2) (by decide) (by decide)) ⟨by decide, by decide⟩ rfl rfl (Nat.le_of_ble_eq_true rfl) ?_
    exact gq_iret (pc := 13) rfl dX12_restore_13 ⟨rfl, rfl⟩
end P2
