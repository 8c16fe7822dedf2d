section P7
variable {X : ge_X} {g : ge_G} {r f x hb : Nat → Int32} {c : Nat}
set_option maxHeartbeats 1000000 in
theorem m_feed_ok {w : Int64} {n : Int32} {N t : Nat} (hN : n = nI N) (h1 : 1 ≤ N) (h8 : N ≤ 8) (h50 : t + N ≤ 50) (ht : r 4 = nI t) : ge_N X ge_SH YX12_feed 1 [.ref (ge_ad X.1 76), .long w, .int n] (ge_m g r f) (some (.int (nI (t + N)))) (ge_m g (p_fd r w t N) f) := by
  refine gq_ofB (l := [(0, .ref (ge_ad X.1 76)), (1, .long w), (3, .int n)]) (by decide) (Nat.le_of_ble_eq_true rfl) rfl ?_
  have key : ∀ (m i : Nat), i + m = N → ge_B X ge_SH YX12_feed 1 (fun v2 g2 => v2 = (some (.int (nI (t + N)))) ∧ g2 = (ge_m g (p_fd r w t N) f)) 40 [(4, .int (nI i)), (0, .ref (ge_ad X.1 76)), (1, .long w), (3, .int n)] [] (ge_m g (p_fd r w t i) f) := by
    intro m
    induction m with
    | zero =>
      intro i hi
      obtain rfl : i = N := hi
      refine gq_iload (pc := 40) dX12_feed_40 rfl ?_
      refine gq_iload_n (pc := 42) dX12_feed_42 rfl ?_
      refine gq_ic_ge (pc := 43) 88 dX12_feed_43 (by decide) (fun h_43 => ?_) (fun h_43 => ?_)
      · refine gq_aload_n (pc := 88) dX12_feed_88 rfl ?_
        refine gq_getr (pc := 89) dX12_feed_89 fl_X12_7_12 sh_76 rfl ?_
        refine gq_iconst (pc := 92) dX12_feed_92 kc_4 ?_
        refine qm_ald (pc := 93) dX12_feed_93 kl_4 (by first | decide | omega) ?_
        exact gq_iret (pc := 94) rfl dX12_feed_94 ⟨by rw [p_fd_4 ht], rfl⟩
      · exact absurd (by first | exact Int32.le_refl _ | (rw [hN]; exact Int32.le_refl _)) h_43
    | succ m ih =>
      intro i hi
      refine gq_iload (pc := 40) dX12_feed_40 rfl ?_
      refine gq_iload_n (pc := 42) dX12_feed_42 rfl ?_
      refine gq_ic_ge (pc := 43) 88 dX12_feed_43 (by decide) (fun h_43 => ?_) (fun h_43 => ?_)
      · rw [hN] at h_43
        exact absurd ((nI_leI (a := N) (b := i) (by omega) (by omega)).mp h_43) (by omega)
      · refine gq_aload_n (pc := 46) dX12_feed_46 rfl ?_
        refine gq_getr (pc := 47) dX12_feed_47 fl_X12_7_12 sh_76 rfl ?_
        refine gq_bipush (pc := 50) dX12_feed_50 kb_74 ?_
        refine gq_aload_n (pc := 52) dX12_feed_52 rfl ?_
        refine gq_getr (pc := 53) dX12_feed_53 fl_X12_7_12 sh_76 rfl ?_
        refine gq_iconst (pc := 56) dX12_feed_56 kc_4 ?_
        refine qm_ald (pc := 57) dX12_feed_57 kl_4 (by first | decide | omega) ?_
        rw [p_fd_4 ht i]
        refine gq_iadd (pc := 58) dX12_feed_58 ?_
        refine gq_lload_n (pc := 59) dX12_feed_59 rfl ?_
        refine gq_bipush (pc := 60) dX12_feed_60 kb_8 ?_
        refine gq_iload (pc := 62) dX12_feed_62 rfl ?_
        refine gq_imul (pc := 64) dX12_feed_64 ?_
        rw [show (8 : Int32) * nI i = nI (8 * i) from pk_mul 8 i]
        refine gq_lshr (pc := 65) dX12_feed_65 ?_
        refine gq_ldc2 (pc := 66) dX12_feed_66 kl_X12_168 ?_
        refine gq_land (pc := 69) dX12_feed_69 ?_
        refine gq_l2i (pc := 70) dX12_feed_70 ?_
        refine qm_ast (pc := 71) dX12_feed_71 (nI_add 74 (t + i)) (by first | decide | omega) ?_
        refine gq_aload_n (pc := 72) dX12_feed_72 rfl ?_
        refine gq_getr (pc := 73) dX12_feed_73 fl_X12_7_12 sh_76 rfl ?_
        refine gq_iconst (pc := 76) dX12_feed_76 kc_4 ?_
        refine gq_dup2 (pc := 77) dX12_feed_77 rfl rfl ?_
        refine qm_ald (pc := 78) dX12_feed_78 kl_4 (by first | decide | omega) ?_
        rw [show upd (p_fd r w t i) (74 + (t + i)) (((w >>> ((nI (8 * i)).toInt64 &&& 63)) &&& 255).toInt32) 4 = nI (t + i) from by rw [pk_un (by omega)]; exact p_fd_4 ht i]
        refine gq_iconst (pc := 79) dX12_feed_79 kc_1 ?_
        refine gq_iadd (pc := 80) dX12_feed_80 ?_
        rw [nI_1]
        refine qm_ast (pc := 81) dX12_feed_81 kl_4 (by first | decide | omega) ?_
        refine gq_iinc (pc := 82) (l' := [(4, _), (0, _), (1, _), (3, _)]) dX12_feed_82 rfl (ge_inc1 i) (by decide) rfl ?_
        refine gq_goto (pc := 85) 40 dX12_feed_85 (by decide) ?_
        refine gq_sub [0, 1, 2, 3] rfl ?_
        exact ih (i + 1) (by omega)
  refine gq_iload_n (pc := 0) dX12_feed_0 rfl ?_
  refine gq_iconst (pc := 1) dX12_feed_1 kc_1 ?_
  refine gq_bipush (pc := 2) dX12_feed_2 kb_8 ?_
  refine gq_rS3i (pc := 4) dX12_feed_4 cs_X12_41 (k_in _ _ _) ⟨by decide, by decide⟩ (Nat.le_of_ble_eq_true rfl) ?_
  refine gq_if_ne (pc := 7) 17 dX12_feed_7 (by decide) (fun h_7 => ?_) (fun h_7 => ?_)
  · refine gq_aload_n (pc := 17) dX12_feed_17 rfl ?_
    refine gq_getr (pc := 18) dX12_feed_18 fl_X12_7_12 sh_76 rfl ?_
    refine gq_iconst (pc := 21) dX12_feed_21 kc_4 ?_
    refine qm_ald (pc := 22) dX12_feed_22 kl_4 (by first | decide | omega) ?_
    refine gq_iload_n (pc := 23) dX12_feed_23 rfl ?_
    refine gq_iadd (pc := 24) dX12_feed_24 ?_
    refine gq_bipush (pc := 25) dX12_feed_25 kb_50 ?_
    refine gq_ic_le (pc := 27) 37 dX12_feed_27 (by decide) (fun h_27 => ?_) (fun h_27 => ?_)
    · refine gq_iconst (pc := 37) dX12_feed_37 kc_0 ?_
      refine gq_istore (pc := 38) (l' := [(4, _), (0, _), (1, _), (3, _)]) dX12_feed_38 (by decide) rfl ?_
      refine gq_sub [0, 1, 2, 3] rfl ?_
      exact key N 0 (by omega)
    · exact absurd (by rw [ht, hN, nI_add]; exact (nI_leI (b := 50) (by omega) (by omega)).mpr h50) h_27
  · exact absurd h_7 (p_in_l1 (N := 8) hN h1 h8 (by decide))
set_option maxHeartbeats 400000 in
theorem m_feed_er {w : Int64} {n : Int32} (h : p_in n 1 8 = 0) : ge_N X ge_SH YX12_feed 1 [.ref (ge_ad X.1 76), .long w, .int n] (ge_m g r f) (some (.int (-1000000001))) (ge_m (ge_up g 81 1 (g 81 1 + 1)) r f) := by
  refine gq_ofB (l := [(0, .ref (ge_ad X.1 76)), (1, .long w), (3, .int n)]) (by decide) (Nat.le_of_ble_eq_true rfl) rfl ?_
  refine gq_iload_n (pc := 0) dX12_feed_0 rfl ?_
  refine gq_iconst (pc := 1) dX12_feed_1 kc_1 ?_
  refine gq_bipush (pc := 2) dX12_feed_2 kb_8 ?_
  refine gq_rS3i (pc := 4) dX12_feed_4 cs_X12_41 (k_in _ _ _) ⟨by decide, by decide⟩ (Nat.le_of_ble_eq_true rfl) ?_
  refine gq_if_ne (pc := 7) 17 dX12_feed_7 (by decide) (fun h_7 => ?_) (fun h_7 => ?_)
  · exact absurd h h_7
  · refine gq_aload_n (pc := 10) dX12_feed_10 rfl ?_
    refine gq_ldc (pc := 11) dX12_feed_11 kn_X12_53 ?_
    refine gq_rV1i (pc := 13) dX12_feed_13 cv_X12_54 sh_76 (k_errs (j := 1) (by decide) (by decide)) ⟨by decide, by decide⟩ rfl rfl (Nat.le_of_ble_eq_true rfl) ?_
    exact gq_iret (pc := 16) rfl dX12_feed_16 ⟨rfl, rfl⟩
set_option maxHeartbeats 400000 in
theorem m_feed_fu {w : Int64} {n : Int32} (h : ¬ p_in n 1 8 = 0) (h2 : ¬ r 4 + n ≤ 50) : ge_N X ge_SH YX12_feed 1 [.ref (ge_ad X.1 76), .long w, .int n] (ge_m g r f) (some (.int (-1000000004))) (ge_m (ge_up g 81 4 (g 81 4 + 1)) r f) := by
  refine gq_ofB (l := [(0, .ref (ge_ad X.1 76)), (1, .long w), (3, .int n)]) (by decide) (Nat.le_of_ble_eq_true rfl) rfl ?_
  refine gq_iload_n (pc := 0) dX12_feed_0 rfl ?_
  refine gq_iconst (pc := 1) dX12_feed_1 kc_1 ?_
  refine gq_bipush (pc := 2) dX12_feed_2 kb_8 ?_
  refine gq_rS3i (pc := 4) dX12_feed_4 cs_X12_41 (k_in _ _ _) ⟨by decide, by decide⟩ (Nat.le_of_ble_eq_true rfl) ?_
  refine gq_if_ne (pc := 7) 17 dX12_feed_7 (by decide) (fun h_7 => ?_) (fun h_7 => ?_)
  · refine gq_aload_n (pc := 17) dX12_feed_17 rfl ?_
    refine gq_getr (pc := 18) dX12_feed_18 fl_X12_7_12 sh_76 rfl ?_
    refine gq_iconst (pc := 21) dX12_feed_21 kc_4 ?_
    refine qm_ald (pc := 22) dX12_feed_22 kl_4 (by first | decide | omega) ?_
    refine gq_iload_n (pc := 23) dX12_feed_23 rfl ?_
    refine gq_iadd (pc := 24) dX12_feed_24 ?_
    refine gq_bipush (pc := 25) dX12_feed_25 kb_50 ?_
    refine gq_ic_le (pc := 27) 37 dX12_feed_27 (by decide) (fun h_27 => ?_) (fun h_27 => ?_)
    · exact absurd h_27 h2
    · refine gq_aload_n (pc := 30) dX12_feed_30 rfl ?_
      refine gq_ldc (pc := 31) dX12_feed_31 kn_X12_58 ?_
      refine gq_rV1i (pc := 33) dX12_feed_33 cv_X12_54 sh_76 (k_errs (j := 4) (by decide) (by decide)) ⟨by decide, by decide⟩ rfl rfl (Nat.le_of_ble_eq_true rfl) ?_
      exact gq_iret (pc := 36) rfl dX12_feed_36 ⟨rfl, rfl⟩
  · exact absurd h_7 h
set_option maxHeartbeats 1000000 in
theorem c_feed_ok {w : Int64} {n : Int32} {N t : Nat} (hN : n = nI N) (h1 : 1 ≤ N) (h8 : N ≤ 8) (h50 : t + N ≤ 50) (ht : g 58 1 = nI t) : ge_N X ge_SH YX11_feed 1 [.ref (ge_ad X.1 0), .long w, .int n] (ge_k g 25 r x hb) (some (.int (nI (t + N)))) (ge_k (ge_fd g w t N) 25 r x hb) := by
  refine gq_ofB (l := [(0, .ref (ge_ad X.1 0)), (1, .long w), (3, .int n)]) (by decide) (Nat.le_of_ble_eq_true rfl) rfl ?_
  have key : ∀ (m i : Nat), i + m = N → ge_B X ge_SH YX11_feed 1 (fun v2 g2 => v2 = (some (.int (nI (t + N)))) ∧ g2 = (ge_k (ge_fd g w t N) 25 r x hb)) 39 [(4, .int (nI i)), (0, .ref (ge_ad X.1 0)), (1, .long w), (3, .int n)] [] (ge_k (ge_fd g w t i) 25 r x hb) := by
    intro m
    induction m with
    | zero =>
      intro i hi
      obtain rfl : i = N := hi
      refine gq_iload (pc := 39) dX11_feed_39 rfl ?_
      refine gq_iload_n (pc := 41) dX11_feed_41 rfl ?_
      refine gq_ic_ge (pc := 42) 70 dX11_feed_42 (by decide) (fun h_42 => ?_) (fun h_42 => ?_)
      · refine gq_aload_n (pc := 70) dX11_feed_70 rfl ?_
        refine gq_getr (pc := 71) dX11_feed_71 fl_X11_77_11 sh_0 rfl ?_
        refine kq_geto (pw := 25) (pc := 74) (by decide) dX11_feed_74 fl_X11_182_7 sh_58 rfl (by unfold ge_Z; omega) ?_
        exact gq_iret (pc := 77) rfl dX11_feed_77 ⟨by rw [ge_fd_58 ht], rfl⟩
      · exact absurd (by first | exact Int32.le_refl _ | (rw [hN]; exact Int32.le_refl _)) h_42
    | succ m ih =>
      intro i hi
      refine gq_iload (pc := 39) dX11_feed_39 rfl ?_
      refine gq_iload_n (pc := 41) dX11_feed_41 rfl ?_
      refine gq_ic_ge (pc := 42) 70 dX11_feed_42 (by decide) (fun h_42 => ?_) (fun h_42 => ?_)
      · rw [hN] at h_42
        exact absurd ((nI_leI (a := N) (b := i) (by omega) (by omega)).mp h_42) (by omega)
      · refine gq_aload_n (pc := 45) dX11_feed_45 rfl ?_
        refine gq_getr (pc := 46) dX11_feed_46 fl_X11_77_11 sh_0 rfl ?_
        refine gq_lload_n (pc := 49) dX11_feed_49 rfl ?_
        refine gq_bipush (pc := 50) dX11_feed_50 kb_8 ?_
        refine gq_iload (pc := 52) dX11_feed_52 rfl ?_
        refine gq_imul (pc := 54) dX11_feed_54 ?_
        rw [show (8 : Int32) * nI i = nI (8 * i) from pk_mul 8 i]
        refine gq_lushr (pc := 55) dX11_feed_55 ?_
        refine gq_l2i (pc := 56) dX11_feed_56 ?_
        refine gq_sipush (pc := 57) dX11_feed_57 kq_255 ?_
        refine gq_iand (pc := 60) dX11_feed_60 ?_
        rw [p_byte_eq w i (by omega)]
        refine gq_rV1v (pc := 61) dX11_feed_61 cv_X11_185 sh_58 (r_add_58 (ge_fd_58 ht i) (by omega)) ⟨by decide, by decide⟩ rfl rfl (Nat.le_of_ble_eq_true rfl) ?_
        refine gq_iinc (pc := 64) (l' := [(4, _), (0, _), (1, _), (3, _)]) dX11_feed_64 rfl (ge_inc1 i) (by decide) rfl ?_
        refine gq_goto (pc := 67) 39 dX11_feed_67 (by decide) ?_
        refine gq_sub [0, 1, 2, 3] rfl ?_
        exact ih (i + 1) (by omega)
  refine gq_iload_n (pc := 0) dX11_feed_0 rfl ?_
  refine gq_iconst (pc := 1) dX11_feed_1 kc_1 ?_
  refine gq_bipush (pc := 2) dX11_feed_2 kb_8 ?_
  refine gq_rS3i (pc := 4) dX11_feed_4 cs_X11_105 (c_outside _ _ _) ⟨by decide, by decide⟩ (Nat.le_of_ble_eq_true rfl) ?_
  refine gq_if_eq (pc := 7) 16 dX11_feed_7 (by decide) (fun h_7 => ?_) (fun h_7 => ?_)
  · refine gq_aload_n (pc := 16) dX11_feed_16 rfl ?_
    refine gq_getr (pc := 17) dX11_feed_17 fl_X11_77_11 sh_0 rfl ?_
    refine kq_geto (pw := 25) (pc := 20) (by decide) dX11_feed_20 fl_X11_182_7 sh_58 rfl (by unfold ge_Z; omega) ?_
    refine gq_iload_n (pc := 23) dX11_feed_23 rfl ?_
    refine gq_iadd (pc := 24) dX11_feed_24 ?_
    refine gq_bipush (pc := 25) dX11_feed_25 kb_50 ?_
    refine gq_ic_le (pc := 27) 36 dX11_feed_27 (by decide) (fun h_27 => ?_) (fun h_27 => ?_)
    · refine gq_iconst (pc := 36) dX11_feed_36 kc_0 ?_
      refine gq_istore (pc := 37) (l' := [(4, _), (0, _), (1, _), (3, _)]) dX11_feed_37 (by decide) rfl ?_
      refine gq_sub [0, 1, 2, 3] rfl ?_
      exact key N 0 (by omega)
    · exact absurd (by rw [ht, hN, nI_add]; exact (nI_leI (b := 50) (by omega) (by omega)).mpr h50) h_27
  · exact absurd (p_nt_0.mpr (p_in_l1 (N := 8) hN h1 h8 (by decide))) h_7
set_option maxHeartbeats 400000 in
theorem c_feed_er {w : Int64} {n : Int32} (h : p_in n 1 8 = 0) : ge_N X ge_SH YX11_feed 1 [.ref (ge_ad X.1 0), .long w, .int n] (ge_k g 25 r x hb) (some (.int (-1000000000 - 1))) (ge_k (ge_up g 75 1 (g 75 1 + 1)) 25 r x hb) := by
  refine gq_ofB (l := [(0, .ref (ge_ad X.1 0)), (1, .long w), (3, .int n)]) (by decide) (Nat.le_of_ble_eq_true rfl) rfl ?_
  refine gq_iload_n (pc := 0) dX11_feed_0 rfl ?_
  refine gq_iconst (pc := 1) dX11_feed_1 kc_1 ?_
  refine gq_bipush (pc := 2) dX11_feed_2 kb_8 ?_
  refine gq_rS3i (pc := 4) dX11_feed_4 cs_X11_105 (c_outside _ _ _) ⟨by decide, by decide⟩ (Nat.le_of_ble_eq_true rfl) ?_
  refine gq_if_eq (pc := 7) 16 dX11_feed_7 (by decide) (fun h_7 => ?_) (fun h_7 => ?_)
  · exact absurd h (p_nt_0.mp h_7)
  · refine gq_aload_n (pc := 10) dX11_feed_10 rfl ?_
    refine gq_iconst (pc := 11) dX11_feed_11 kc_1 ?_
    refine gq_rV1i (pc := 12) dX11_feed_12 cv_X11_109 sh_0 (c_error kl_1 (by decide)) ⟨by decide, by decide⟩ rfl rfl (Nat.le_of_ble_eq_true rfl) ?_
    exact gq_iret (pc := 15) rfl dX11_feed_15 ⟨rfl, rfl⟩
set_option maxHeartbeats 400000 in
theorem c_feed_fu {w : Int64} {n : Int32} (h : ¬ p_in n 1 8 = 0) (h2 : ¬ g 58 1 + n ≤ 50) : ge_N X ge_SH YX11_feed 1 [.ref (ge_ad X.1 0), .long w, .int n] (ge_k g 25 r x hb) (some (.int (-1000000000 - 4))) (ge_k (ge_up g 75 4 (g 75 4 + 1)) 25 r x hb) := by
  refine gq_ofB (l := [(0, .ref (ge_ad X.1 0)), (1, .long w), (3, .int n)]) (by decide) (Nat.le_of_ble_eq_true rfl) rfl ?_
  refine gq_iload_n (pc := 0) dX11_feed_0 rfl ?_
  refine gq_iconst (pc := 1) dX11_feed_1 kc_1 ?_
  refine gq_bipush (pc := 2) dX11_feed_2 kb_8 ?_
  refine gq_rS3i (pc := 4) dX11_feed_4 cs_X11_105 (c_outside _ _ _) ⟨by decide, by decide⟩ (Nat.le_of_ble_eq_true rfl) ?_
  refine gq_if_eq (pc := 7) 16 dX11_feed_7 (by decide) (fun h_7 => ?_) (fun h_7 => ?_)
  · refine gq_aload_n (pc := 16) dX11_feed_16 rfl ?_
    refine gq_getr (pc := 17) dX11_feed_17 fl_X11_77_11 sh_0 rfl ?_
    refine kq_geto (pw := 25) (pc := 20) (by decide) dX11_feed_20 fl_X11_182_7 sh_58 rfl (by unfold ge_Z; omega) ?_
    refine gq_iload_n (pc := 23) dX11_feed_23 rfl ?_
    refine gq_iadd (pc := 24) dX11_feed_24 ?_
    refine gq_bipush (pc := 25) dX11_feed_25 kb_50 ?_
    refine gq_ic_le (pc := 27) 36 dX11_feed_27 (by decide) (fun h_27 => ?_) (fun h_27 => ?_)
    · exact absurd h_27 h2
    · refine gq_aload_n (pc := 30) dX11_feed_30 rfl ?_
      refine gq_iconst (pc := 31) dX11_feed_31 kc_4 ?_
      refine gq_rV1i (pc := 32) dX11_feed_32 cv_X11_109 sh_0 (c_error kl_4 (by decide)) ⟨by decide, by decide⟩ rfl rfl (Nat.le_of_ble_eq_true rfl) ?_
      exact gq_iret (pc := 35) rfl dX11_feed_35 ⟨rfl, rfl⟩
  · exact absurd (p_nt_0.mpr h) h_7
set_option maxHeartbeats 400000 in
theorem k_draw_25 {E : Nat} (hE : E ≤ 8) (e2 : r 2 = nI E) : ge_N X ge_SH YX10_drawBase 0 [.ref (ge_ad X.1 25)] (ge_k g 25 r x hb) none (ge_k g 25 (p_drw r) x hb) := by
  refine gq_ofB (l := [(0, .ref (ge_ad X.1 25))]) (by decide) (Nat.le_of_ble_eq_true rfl) rfl ?_
  refine gq_aload_n (pc := 0) dX10_drawBase_0 rfl ?_
  refine gq_aload_n (pc := 1) dX10_drawBase_1 rfl ?_
  refine kq_get14 (pw := 25) (pc := 2) (by decide) dX10_drawBase_2 fl_X10_47_10 ?_
  refine gq_ldc (pc := 5) dX10_drawBase_5 kn_X10_133 ?_
  refine gq_imul (pc := 7) dX10_drawBase_7 ?_
  refine gq_sipush (pc := 8) dX10_drawBase_8 kq_12345 ?_
  refine gq_iadd (pc := 11) dX10_drawBase_11 ?_
  refine kq_put14 (pw := 25) (pc := 12) (by decide) dX10_drawBase_12 fp_X10_47_10 ?_
  refine gq_aload_n (pc := 15) dX10_drawBase_15 rfl ?_
  refine kq_get14 (pw := 25) (pc := 16) (by decide) dX10_drawBase_16 fl_X10_47_10 ?_
  refine gq_bipush (pc := 19) dX10_drawBase_19 kb_8 ?_
  refine gq_iushr (pc := 21) dX10_drawBase_21 ?_
  refine gq_istore_n (pc := 22) (l' := [(1, _), (0, _)]) dX10_drawBase_22 (by decide) rfl ?_
  refine gq_aload_n (pc := 23) dX10_drawBase_23 rfl ?_
  refine kq_get11 (pw := 25) (pc := 24) (by decide) dX10_drawBase_24 fl_X10_63_10 ?_
  refine gq_if_le (pc := 27) 48 dX10_drawBase_27 (by decide) (fun h_27 => ?_) (fun h_27 => ?_)
  · exact gq_vret (pc := 48) rfl dX10_drawBase_48 ⟨rfl, congrArg (fun q => ge_k g 25 q x hb) (p_drw_t (r := r) h_27).symm⟩
  · have q := p_drw_ix (r := r) e2 h_27 hE
    refine gq_aload_n (pc := 30) dX10_drawBase_30 rfl ?_
    refine gq_getr (pc := 31) dX10_drawBase_31 fl_X10_29_10 sh_25 rfl ?_
    refine gq_iload_n (pc := 34) dX10_drawBase_34 rfl ?_
    refine gq_aload_n (pc := 35) dX10_drawBase_35 rfl ?_
    refine kq_get11 (pw := 25) (pc := 36) (by decide) dX10_drawBase_36 fl_X10_63_10 ?_
    refine gq_irem (pc := 39) dX10_drawBase_39 (fun zz => h_27 (by have zz : r 2 = 0 := zz; show r 2 ≤ 0; rw [zz]; decide)) (rfl : _ = p_rem _ _) ?_
    refine gq_iload_n (pc := 40) dX10_drawBase_40 rfl ?_
    refine gq_bipush (pc := 41) dX10_drawBase_41 kb_8 ?_
    refine gq_idiv (pc := 43) dX10_drawBase_43 (by decide) ?_
    refine gq_bipush (pc := 44) dX10_drawBase_44 kb_10 ?_
    refine gq_irem (pc := 46) dX10_drawBase_46 (by decide) (rfl : _ = p_rem _ _) ?_
    refine kq_ast4 (pw := 25) (pc := 47) (by decide) dX10_drawBase_47 q.2.1 (by omega) ?_
    exact gq_vret (pc := 48) rfl dX10_drawBase_48 ⟨rfl, congrArg (fun q => ge_k g 25 q x hb) (p_drw_f (r := r) h_27).symm⟩
set_option maxHeartbeats 1000000 in
theorem c_loose_ok {n : Int32} {N V E : Nat} (hN : n = nI N) (h1 : 1 ≤ N) (h40 : N ≤ 40) (h : p_ok g (c + N) V r) (hE : E ≤ 8) (e2 : r 2 = nI E) (hh : r 0 + n ≤ 9999) (hx : x 18 = -1) : ge_N X ge_SH YX11_loose 6 [.ref (ge_ad X.1 0), .int n] (ge_k g 25 r x hb) (some (.int (nI (p_los r N)))) (ge_k g 25 (p_lrs r N) (p_lxs (upd x 15 0) r V N) (p_lhs hb r V N)) := by
  refine gq_ofB (l := [(0, .ref (ge_ad X.1 0)), (1, .int n)]) (by decide) (Nat.le_of_ble_eq_true rfl) rfl ?_
  have key : ∀ (m i : Nat), i + m = N → ge_B X ge_SH YX11_loose 6 (fun v2 g2 => v2 = (some (.int (nI (p_los r N)))) ∧ g2 = (ge_k g 25 (p_lrs r N) (p_lxs (upd x 15 0) r V N) (p_lhs hb r V N))) 47 [(2, .int (nI i)), (0, .ref (ge_ad X.1 0)), (1, .int n)] [] (ge_k g 25 (p_lrs r i) (p_lxs (upd x 15 0) r V i) (p_lhs hb r V i)) := by
    intro m
    induction m with
    | zero =>
      intro i hi
      obtain rfl : i = N := hi
      refine gq_iload_n (pc := 47) dX11_loose_47 rfl ?_
      refine gq_iload_n (pc := 48) dX11_loose_48 rfl ?_
      refine gq_ic_ge (pc := 49) 73 dX11_loose_49 (by decide) (fun h_49 => ?_) (fun h_49 => ?_)
      · refine gq_aload_n (pc := 73) dX11_loose_73 rfl ?_
        refine gq_getr (pc := 74) dX11_loose_74 fl_X11_60_11 sh_0 rfl ?_
        refine kq_get15 (pw := 25) (pc := 77) (by decide) dX11_loose_77 fl_X11_211_10 ?_
        exact gq_iret (pc := 80) rfl dX11_loose_80 ⟨by rw [p_lxs_15 (g := g) (c := c) (x := upd x 15 0) rfl i h], rfl⟩
      · exact absurd (by first | exact Int32.le_refl _ | (rw [hN]; exact Int32.le_refl _)) h_49
    | succ m ih =>
      intro i hi
      have hr : p_ok g (c + 1) V (p_lrs r i) := p_ok_weak (p_ok_lrs (c := c + (N - i)) i (by rw [show c + (N - i) + i = c + N by omega]; exact h)) (by omega)
      refine gq_iload_n (pc := 47) dX11_loose_47 rfl ?_
      refine gq_iload_n (pc := 48) dX11_loose_48 rfl ?_
      refine gq_ic_ge (pc := 49) 73 dX11_loose_49 (by decide) (fun h_49 => ?_) (fun h_49 => ?_)
      · rw [hN] at h_49
        exact absurd ((nI_leI (a := N) (b := i) (by omega) (by omega)).mp h_49) (by omega)
      · refine gq_aload_n (pc := 52) dX11_loose_52 rfl ?_
        refine gq_getr (pc := 53) dX11_loose_53 fl_X11_60_11 sh_0 rfl ?_
        refine gq_rV0v (pc := 56) dX11_loose_56 cv_X11_217 sh_25 (k_draw_25 hE (by rw [p_lrs_2]; exact e2)) ⟨by decide, by decide⟩ rfl rfl (Nat.le_of_ble_eq_true rfl) ?_
        refine gq_aload_n (pc := 59) dX11_loose_59 rfl ?_
        refine gq_getr (pc := 60) dX11_loose_60 fl_X11_60_11 sh_0 rfl ?_
        refine gq_iconst (pc := 63) dX11_loose_63 kc_1 ?_
        refine gq_rV1v (pc := 64) dX11_loose_64 cv_X11_214 sh_25 (k_hours_25 (c := c) (V := V) (N := 1) rfl (by decide) (p_ok_drw hr) (by rw [p_lxs_18]; exact hx)) ⟨by decide, by decide⟩ rfl rfl (Nat.le_of_ble_eq_true rfl) ?_
        refine gq_iinc (pc := 67) (l' := [(2, _), (0, _), (1, _)]) dX11_loose_67 rfl (ge_inc1 i) (by decide) rfl ?_
        refine gq_goto (pc := 70) 47 dX11_loose_70 (by decide) ?_
        refine gq_sub [0, 1, 2] rfl ?_
        exact ih (i + 1) (by omega)
  refine gq_iload_n (pc := 0) dX11_loose_0 rfl ?_
  refine gq_iconst (pc := 1) dX11_loose_1 kc_1 ?_
  refine gq_bipush (pc := 2) dX11_loose_2 kb_40 ?_
  refine gq_rS3i (pc := 4) dX11_loose_4 cs_X11_105 (c_outside _ _ _) ⟨by decide, by decide⟩ (Nat.le_of_ble_eq_true rfl) ?_
  refine gq_if_eq (pc := 7) 16 dX11_loose_7 (by decide) (fun h_7 => ?_) (fun h_7 => ?_)
  · refine gq_aload_n (pc := 16) dX11_loose_16 rfl ?_
    refine gq_getr (pc := 17) dX11_loose_17 fl_X11_60_11 sh_0 rfl ?_
    refine kq_get13 (pw := 25) (pc := 20) (by decide) dX11_loose_20 fl_X11_208_10 ?_
    refine gq_iload_n (pc := 23) dX11_loose_23 rfl ?_
    refine gq_iadd (pc := 24) dX11_loose_24 ?_
    refine gq_sipush (pc := 25) dX11_loose_25 kq_9999 ?_
    refine gq_ic_le (pc := 28) 37 dX11_loose_28 (by decide) (fun h_28 => ?_) (fun h_28 => ?_)
    · refine gq_aload_n (pc := 37) dX11_loose_37 rfl ?_
      refine gq_getr (pc := 38) dX11_loose_38 fl_X11_60_11 sh_0 rfl ?_
      refine gq_iconst (pc := 41) dX11_loose_41 kc_0 ?_
      refine kq_put15 (pw := 25) (pc := 42) (by decide) dX11_loose_42 fp_X11_211_10 ?_
      refine gq_iconst (pc := 45) dX11_loose_45 kc_0 ?_
      refine gq_istore_n (pc := 46) (l' := [(2, _), (0, _), (1, _)]) dX11_loose_46 (by decide) rfl ?_
      refine gq_sub [0, 1, 2] rfl ?_
      exact key N 0 (by omega)
    · exact absurd hh h_28
  · exact absurd (p_nt_0.mpr (p_in_l1 (N := 40) hN h1 h40 (by decide))) h_7
set_option maxHeartbeats 400000 in
theorem c_loose_er {n : Int32} (h : p_in n 1 40 = 0) : ge_N X ge_SH YX11_loose 6 [.ref (ge_ad X.1 0), .int n] (ge_k g 25 r x hb) (some (.int (-1000000000 - 1))) (ge_k (ge_up g 75 1 (g 75 1 + 1)) 25 r x hb) := by
  refine gq_ofB (l := [(0, .ref (ge_ad X.1 0)), (1, .int n)]) (by decide) (Nat.le_of_ble_eq_true rfl) rfl ?_
  refine gq_iload_n (pc := 0) dX11_loose_0 rfl ?_
  refine gq_iconst (pc := 1) dX11_loose_1 kc_1 ?_
  refine gq_bipush (pc := 2) dX11_loose_2 kb_40 ?_
  refine gq_rS3i (pc := 4) dX11_loose_4 cs_X11_105 (c_outside _ _ _) ⟨by decide, by decide⟩ (Nat.le_of_ble_eq_true rfl) ?_
  refine gq_if_eq (pc := 7) 16 dX11_loose_7 (by decide) (fun h_7 => ?_) (fun h_7 => ?_)
  · exact absurd h (p_nt_0.mp h_7)
  · refine gq_aload_n (pc := 10) dX11_loose_10 rfl ?_
    refine gq_iconst (pc := 11) dX11_loose_11 kc_1 ?_
    refine gq_rV1i (pc := 12) dX11_loose_12 cv_X11_109 sh_0 (c_error kl_1 (by decide)) ⟨by decide, by decide⟩ rfl rfl (Nat.le_of_ble_eq_true rfl) ?_
    exact gq_iret (pc := 15) rfl dX11_loose_15 ⟨rfl, rfl⟩
set_option maxHeartbeats 400000 in
theorem c_loose_st {n : Int32} (h1 : ¬ p_in n 1 40 = 0) (hh : ¬ r 0 + n ≤ 9999) : ge_N X ge_SH YX11_loose 6 [.ref (ge_ad X.1 0), .int n] (ge_k g 25 r x hb) (some (.int (-1000000000 - 3))) (ge_k (ge_up g 75 3 (g 75 3 + 1)) 25 r x hb) := by
  refine gq_ofB (l := [(0, .ref (ge_ad X.1 0)), (1, .int n)]) (by decide) (Nat.le_of_ble_eq_true rfl) rfl ?_
  refine gq_iload_n (pc := 0) dX11_loose_0 rfl ?_
  refine gq_iconst (pc := 1) dX11_loose_1 kc_1 ?_
  refine gq_bipush (pc := 2) dX11_loose_2 kb_40 ?_
  refine gq_rS3i (pc := 4) dX11_loose_4 cs_X11_105 (c_outside _ _ _) ⟨by decide, by decide⟩ (Nat.le_of_ble_eq_true rfl) ?_
  refine gq_if_eq (pc := 7) 16 dX11_loose_7 (by decide) (fun h_7 => ?_) (fun h_7 => ?_)
  · refine gq_aload_n (pc := 16) dX11_loose_16 rfl ?_
    refine gq_getr (pc := 17) dX11_loose_17 fl_X11_60_11 sh_0 rfl ?_
    refine kq_get13 (pw := 25) (pc := 20) (by decide) dX11_loose_20 fl_X11_208_10 ?_
    refine gq_iload_n (pc := 23) dX11_loose_23 rfl ?_
    refine gq_iadd (pc := 24) dX11_loose_24 ?_
    refine gq_sipush (pc := 25) dX11_loose_25 kq_9999 ?_
    refine gq_ic_le (pc := 28) 37 dX11_loose_28 (by decide) (fun h_28 => ?_) (fun h_28 => ?_)
    · exact absurd h_28 hh
    · refine gq_aload_n (pc := 31) dX11_loose_31 rfl ?_
      refine gq_iconst (pc := 32) dX11_loose_32 kc_3 ?_
      refine gq_rV1i (pc := 33) dX11_loose_33 cv_X11_109 sh_0 (c_error kl_3 (by decide)) ⟨by decide, by decide⟩ rfl rfl (Nat.le_of_ble_eq_true rfl) ?_
      exact gq_iret (pc := 36) rfl dX11_loose_36 ⟨rfl, rfl⟩
  · exact absurd (p_nt_0.mpr h1) h_7
set_option maxHeartbeats 1000000 in
theorem m_loose_ok {n : Int32} {N V E : Nat} (hN : n = nI N) (h1 : 1 ≤ N) (h40 : N ≤ 40) (h : p_ok g (c + N) V r) (hE : E ≤ 8) (e2 : r 2 = nI E) (hh : r 0 + n ≤ 9999)  : ge_N X ge_SH YX12_loose 45 [.ref (ge_ad X.1 76), .int n] (ge_m g r f) (some (.int (nI (p_los r N)))) (ge_m g (p_lrs r N) (p_lfs f r N)) := by
  refine gq_ofB (l := [(0, .ref (ge_ad X.1 76)), (1, .int n)]) (by decide) (Nat.le_of_ble_eq_true rfl) rfl ?_
  have key : ∀ (m i : Nat), i + m = N → ge_B X ge_SH YX12_loose 45 (fun v2 g2 => v2 = (some (.int (nI (p_los r N)))) ∧ g2 = (ge_m g (p_lrs r N) (p_lfs f r N))) 42 [(3, .int (nI i)), (2, .int (nI (p_los r i))), (0, .ref (ge_ad X.1 76)), (1, .int n)] [] (ge_m g (p_lrs r i) (p_lfs f r i)) := by
    intro m
    induction m with
    | zero =>
      intro i hi
      obtain rfl : i = N := hi
      refine gq_iload_n (pc := 42) dX12_loose_42 rfl ?_
      refine gq_iload_n (pc := 43) dX12_loose_43 rfl ?_
      refine gq_ic_ge (pc := 44) 98 dX12_loose_44 (by decide) (fun h_44 => ?_) (fun h_44 => ?_)
      · refine gq_iload_n (pc := 98) dX12_loose_98 rfl ?_
        exact gq_iret (pc := 99) rfl dX12_loose_99 ⟨rfl, rfl⟩
      · exact absurd (by first | exact Int32.le_refl _ | (rw [hN]; exact Int32.le_refl _)) h_44
    | succ m ih =>
      intro i hi
      have hr : p_ok g (c + 1) V (p_lrs r i) := p_ok_weak (p_ok_lrs (c := c + (N - i)) i (by rw [show c + (N - i) + i = c + N by omega]; exact h)) (by omega)
      refine gq_iload_n (pc := 42) dX12_loose_42 rfl ?_
      refine gq_iload_n (pc := 43) dX12_loose_43 rfl ?_
      refine gq_ic_ge (pc := 44) 98 dX12_loose_44 (by decide) (fun h_44 => ?_) (fun h_44 => ?_)
      · rw [hN] at h_44
        exact absurd ((nI_leI (a := N) (b := i) (by omega) (by omega)).mp h_44) (by omega)
      · refine gq_aload_n (pc := 47) dX12_loose_47 rfl ?_
        refine gq_rV0i (pc := 48) dX12_loose_48 cv_X12_199 sh_76 k_drawn ⟨by decide, by decide⟩ rfl rfl (Nat.le_of_ble_eq_true rfl) ?_
        refine gq_istore (pc := 51) (l' := [(4, _), (3, _), (2, _), (0, _), (1, _)]) dX12_loose_51 (by decide) rfl ?_
        refine gq_aload_n (pc := 53) dX12_loose_53 rfl ?_
        refine gq_getr (pc := 54) dX12_loose_54 fl_X12_7_12 sh_76 rfl ?_
        refine gq_iconst (pc := 57) dX12_loose_57 kc_2 ?_
        refine qm_ald (pc := 58) dX12_loose_58 kl_2 (by first | decide | omega) ?_
        refine gq_if_le (pc := 59) 84 dX12_loose_59 (by decide) (fun h_59 => ?_) (fun h_59 => ?_)
        · refine gq_tog (g := ge_m g (p_drw (p_lrs r i)) (p_lfs f r i)) (congrArg (fun q => ge_m g q (p_lfs f r i)) (p_drw_t (r := p_lrs r i) h_59)) ?_
          refine gq_iload_n (pc := 84) dX12_loose_84 rfl ?_
          refine gq_aload_n (pc := 85) dX12_loose_85 rfl ?_
          refine gq_iconst (pc := 86) dX12_loose_86 kc_1 ?_
          refine gq_rV1i (pc := 87) dX12_loose_87 cv_X12_195 sh_76 (k_passes (c := c) (N := 1) rfl (by decide) (p_ok_drw hr).1) ⟨by decide, by decide⟩ rfl rfl (Nat.le_of_ble_eq_true rfl) ?_
          refine gq_iadd (pc := 90) dX12_loose_90 ?_
          rw [nI_add]
          refine gq_istore_n (pc := 91) (l' := [(2, _), (4, _), (3, _), (0, _), (1, _)]) dX12_loose_91 (by decide) rfl ?_
          refine gq_iinc (pc := 92) (l' := [(3, _), (2, _), (4, _), (0, _), (1, _)]) dX12_loose_92 rfl (ge_inc1 i) (by decide) rfl ?_
          refine gq_goto (pc := 95) 42 dX12_loose_95 (by decide) ?_
          refine gq_sub [0, 1, 3, 4] rfl ?_
          exact ih (i + 1) (by omega)
        · have q := p_drw_ix (r := p_lrs r i) (by rw [p_lrs_2]; exact e2) h_59 hE
          refine gq_aload_n (pc := 62) dX12_loose_62 rfl ?_
          refine gq_iload (pc := 63) dX12_loose_63 rfl ?_
          refine gq_aload_n (pc := 65) dX12_loose_65 rfl ?_
          refine gq_getr (pc := 66) dX12_loose_66 fl_X12_7_12 sh_76 rfl ?_
          refine gq_iconst (pc := 69) dX12_loose_69 kc_2 ?_
          refine qm_ald (pc := 70) dX12_loose_70 kl_2 (by first | decide | omega) ?_
          refine gq_irem (pc := 71) dX12_loose_71 (fun zz => h_59 (by have zz : p_lrs r i 2 = 0 := zz; show p_lrs r i 2 ≤ 0; rw [zz]; decide)) (rfl : _ = p_rem _ _) ?_
          refine gq_iconst (pc := 72) dX12_loose_72 kc_2 ?_
          refine gq_iload (pc := 73) dX12_loose_73 rfl ?_
          refine gq_bipush (pc := 75) dX12_loose_75 kb_8 ?_
          refine gq_idiv (pc := 77) dX12_loose_77 (by decide) ?_
          refine gq_bipush (pc := 78) dX12_loose_78 kb_10 ?_
          refine gq_irem (pc := 80) dX12_loose_80 (by decide) (rfl : _ = p_rem _ _) ?_
          refine gq_rV3v (pc := 81) dX12_loose_81 cv_X12_59 sh_76 (k_gets q.2.1 kl_2 (by omega)) ⟨by decide, by decide⟩ rfl rfl (Nat.le_of_ble_eq_true rfl) ?_
          refine gq_tog (g := ge_m g (p_drw (p_lrs r i)) (p_lfs f r i)) (congrArg (fun q => ge_m g q (p_lfs f r i)) (p_drw_f (r := p_lrs r i) h_59)) ?_
          refine gq_iload_n (pc := 84) dX12_loose_84 rfl ?_
          refine gq_aload_n (pc := 85) dX12_loose_85 rfl ?_
          refine gq_iconst (pc := 86) dX12_loose_86 kc_1 ?_
          refine gq_rV1i (pc := 87) dX12_loose_87 cv_X12_195 sh_76 (k_passes (c := c) (N := 1) rfl (by decide) (p_ok_drw hr).1) ⟨by decide, by decide⟩ rfl rfl (Nat.le_of_ble_eq_true rfl) ?_
          refine gq_iadd (pc := 90) dX12_loose_90 ?_
          rw [nI_add]
          refine gq_istore_n (pc := 91) (l' := [(2, _), (4, _), (3, _), (0, _), (1, _)]) dX12_loose_91 (by decide) rfl ?_
          refine gq_iinc (pc := 92) (l' := [(3, _), (2, _), (4, _), (0, _), (1, _)]) dX12_loose_92 rfl (ge_inc1 i) (by decide) rfl ?_
          refine gq_goto (pc := 95) 42 dX12_loose_95 (by decide) ?_
          refine gq_sub [0, 1, 3, 4] rfl ?_
          exact ih (i + 1) (by omega)
  refine gq_iload_n (pc := 0) dX12_loose_0 rfl ?_
  refine gq_iconst (pc := 1) dX12_loose_1 kc_1 ?_
  refine gq_bipush (pc := 2) dX12_loose_2 kb_40 ?_
  refine gq_rS3i (pc := 4) dX12_loose_4 cs_X12_41 (k_in _ _ _) ⟨by decide, by decide⟩ (Nat.le_of_ble_eq_true rfl) ?_
  refine gq_if_ne (pc := 7) 17 dX12_loose_7 (by decide) (fun h_7 => ?_) (fun h_7 => ?_)
  · refine gq_aload_n (pc := 17) dX12_loose_17 rfl ?_
    refine gq_getr (pc := 18) dX12_loose_18 fl_X12_7_12 sh_76 rfl ?_
    refine gq_iconst (pc := 21) dX12_loose_21 kc_0 ?_
    refine qm_ald (pc := 22) dX12_loose_22 kl_0 (by first | decide | omega) ?_
    refine gq_iload_n (pc := 23) dX12_loose_23 rfl ?_
    refine gq_iadd (pc := 24) dX12_loose_24 ?_
    refine gq_sipush (pc := 25) dX12_loose_25 kq_9999 ?_
    refine gq_ic_le (pc := 28) 38 dX12_loose_28 (by decide) (fun h_28 => ?_) (fun h_28 => ?_)
    · refine gq_iconst (pc := 38) dX12_loose_38 kc_0 ?_
      refine gq_istore_n (pc := 39) (l' := [(2, _), (0, _), (1, _)]) dX12_loose_39 (by decide) rfl ?_
      refine gq_iconst (pc := 40) dX12_loose_40 kc_0 ?_
      refine gq_istore_n (pc := 41) (l' := [(3, _), (2, _), (0, _), (1, _)]) dX12_loose_41 (by decide) rfl ?_
      refine gq_sub [0, 1, 2, 3] rfl ?_
      exact key N 0 (by omega)
    · exact absurd hh h_28
  · exact absurd h_7 (p_in_l1 (N := 40) hN h1 h40 (by decide))
set_option maxHeartbeats 400000 in
theorem m_loose_er {n : Int32} (h : p_in n 1 40 = 0) : ge_N X ge_SH YX12_loose 45 [.ref (ge_ad X.1 76), .int n] (ge_m g r f) (some (.int (-1000000001))) (ge_m (ge_up g 81 1 (g 81 1 + 1)) r f) := by
  refine gq_ofB (l := [(0, .ref (ge_ad X.1 76)), (1, .int n)]) (by decide) (Nat.le_of_ble_eq_true rfl) rfl ?_
  refine gq_iload_n (pc := 0) dX12_loose_0 rfl ?_
  refine gq_iconst (pc := 1) dX12_loose_1 kc_1 ?_
  refine gq_bipush (pc := 2) dX12_loose_2 kb_40 ?_
  refine gq_rS3i (pc := 4) dX12_loose_4 cs_X12_41 (k_in _ _ _) ⟨by decide, by decide⟩ (Nat.le_of_ble_eq_true rfl) ?_
  refine gq_if_ne (pc := 7) 17 dX12_loose_7 (by decide) (fun h_7 => ?_) (fun h_7 => ?_)
  · exact absurd h h_7
  · refine gq_aload_n (pc := 10) dX12_loose_10 rfl ?_
    refine gq_ldc (pc := 11) dX12_loose_11 kn_X12_53 ?_
    refine gq_rV1i (pc := 13) dX12_loose_13 cv_X12_54 sh_76 (k_errs (j := 1) (by decide) (by decide)) ⟨by decide, by decide⟩ rfl rfl (Nat.le_of_ble_eq_true rfl) ?_
    exact gq_iret (pc := 16) rfl dX12_loose_16 ⟨rfl, rfl⟩
set_option maxHeartbeats 400000 in
theorem m_loose_st {n : Int32} (h1 : ¬ p_in n 1 40 = 0) (hh : ¬ r 0 + n ≤ 9999) : ge_N X ge_SH YX12_loose 45 [.ref (ge_ad X.1 76), .int n] (ge_m g r f) (some (.int (-1000000003))) (ge_m (ge_up g 81 3 (g 81 3 + 1)) r f) := by
  refine gq_ofB (l := [(0, .ref (ge_ad X.1 76)), (1, .int n)]) (by decide) (Nat.le_of_ble_eq_true rfl) rfl ?_
  refine gq_iload_n (pc := 0) dX12_loose_0 rfl ?_
  refine gq_iconst (pc := 1) dX12_loose_1 kc_1 ?_
  refine gq_bipush (pc := 2) dX12_loose_2 kb_40 ?_
  refine gq_rS3i (pc := 4) dX12_loose_4 cs_X12_41 (k_in _ _ _) ⟨by decide, by decide⟩ (Nat.le_of_ble_eq_true rfl) ?_
  refine gq_if_ne (pc := 7) 17 dX12_loose_7 (by decide) (fun h_7 => ?_) (fun h_7 => ?_)
  · refine gq_aload_n (pc := 17) dX12_loose_17 rfl ?_
    refine gq_getr (pc := 18) dX12_loose_18 fl_X12_7_12 sh_76 rfl ?_
    refine gq_iconst (pc := 21) dX12_loose_21 kc_0 ?_
    refine qm_ald (pc := 22) dX12_loose_22 kl_0 (by first | decide | omega) ?_
    refine gq_iload_n (pc := 23) dX12_loose_23 rfl ?_
    refine gq_iadd (pc := 24) dX12_loose_24 ?_
    refine gq_sipush (pc := 25) dX12_loose_25 kq_9999 ?_
    refine gq_ic_le (pc := 28) 38 dX12_loose_28 (by decide) (fun h_28 => ?_) (fun h_28 => ?_)
    · exact absurd h_28 hh
    · refine gq_aload_n (pc := 31) dX12_loose_31 rfl ?_
      refine gq_ldc (pc := 32) dX12_loose_32 kn_X12_194 ?_
      refine gq_rV1i (pc := 34) dX12_loose_34 cv_X12_54 sh_76 (k_errs (j := 3) (by decide) (by decide)) ⟨by decide, by decide⟩ rfl rfl (Nat.le_of_ble_eq_true rfl) ?_
      exact gq_iret (pc := 37) rfl dX12_loose_37 ⟨rfl, rfl⟩
  · exact absurd h_7 h1
end P7
