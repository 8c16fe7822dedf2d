section H1
variable {X : ge_X} {g : ge_G} {r f : Nat → Int32} {c : Nat}
theorem rf_1 {α : Type} {P : Prop} {a b : α} (h : a = b) (hp : P) : a = b ∧ P := ⟨h, hp⟩
set_option maxHeartbeats 1000000 in
theorem k_shows {e : Int32} {j : Nat} (hI : p_inv c r) (he : e = nI j) (hj : j < 8) : ge_N X ge_SH YX12_shows 41 [.ref (ge_ad X.1 76), .int e] (ge_m g r f) (some (.int (p_shows r j))) (ge_m g r f) := by
  refine gq_ofB (l := [(0, .ref (ge_ad X.1 76)), (1, .int e)]) (by decide) (Nat.le_of_ble_eq_true rfl) rfl ?_
  refine gq_aload_n (pc := 0) dX12_shows_0 rfl ?_
  refine gq_iload_n (pc := 1) dX12_shows_1 rfl ?_
  refine gq_iconst (pc := 2) dX12_shows_2 kc_1 ?_
  refine gq_rV2i (pc := 3) dX12_shows_3 cv_X12_69 sh_76 (k_its (by first | assumption | rfl) kl_1 (by omega)) ⟨by decide, by decide⟩ rfl rfl (Nat.le_of_ble_eq_true rfl) ?_
  refine gq_istore_n (pc := 6) (l' := [(2, _), (0, _), (1, _)]) dX12_shows_6 (by decide) rfl ?_
  refine gq_aload_n (pc := 7) dX12_shows_7 rfl ?_
  refine gq_iconst (pc := 8) dX12_shows_8 kc_0 ?_
  refine gq_aload_n (pc := 9) dX12_shows_9 rfl ?_
  refine gq_iload_n (pc := 10) dX12_shows_10 rfl ?_
  refine gq_iconst (pc := 11) dX12_shows_11 kc_2 ?_
  refine gq_rV2i (pc := 12) dX12_shows_12 cv_X12_69 sh_76 (k_its (by first | assumption | rfl) kl_2 (by omega)) ⟨by decide, by decide⟩ rfl rfl (Nat.le_of_ble_eq_true rfl) ?_
  refine gq_aload_n (pc := 15) dX12_shows_15 rfl ?_
  refine gq_getr (pc := 16) dX12_shows_16 fl_X12_7_12 sh_76 rfl ?_
  refine gq_iconst (pc := 19) dX12_shows_19 kc_0 ?_
  refine qm_ald (pc := 20) dX12_shows_20 kl_0 (by first | decide | omega) ?_
  refine gq_bipush (pc := 21) dX12_shows_21 kb_12 ?_
  refine gq_irem (pc := 23) dX12_shows_23 (by decide) (rfl : _ = p_rem _ _) ?_
  refine gq_iload_n (pc := 24) dX12_shows_24 rfl ?_
  refine gq_rV4i (pc := 25) dX12_shows_25 cv_X12_165 sh_76 (k_lawOf kl_0 (by decide) hI.1) ⟨by decide, by decide⟩ rfl rfl (Nat.le_of_ble_eq_true rfl) ?_
  refine gq_istore_n (pc := 28) (l' := [(3, _), (2, _), (0, _), (1, _)]) dX12_shows_28 (by decide) rfl ?_
  refine gq_aload_n (pc := 29) dX12_shows_29 rfl ?_
  refine gq_iload_n (pc := 30) dX12_shows_30 rfl ?_
  refine gq_iconst (pc := 31) dX12_shows_31 kc_0 ?_
  refine gq_rV2i (pc := 32) dX12_shows_32 cv_X12_69 sh_76 (k_its (by first | assumption | rfl) kl_0 (by omega)) ⟨by decide, by decide⟩ rfl rfl (Nat.le_of_ble_eq_true rfl) ?_
  obtain ⟨k, hk, ek⟩ := (hI.2.2.2.2.1 j hj).1
  rw [ek]
  rcases (by omega : k = 0 ∨ k = 1 ∨ k = 2 ∨ k = 3 ∨ k = 4 ∨ k = 5 ∨ k = 6) with rfl | rfl | rfl | rfl | rfl | rfl | rfl
  · refine gq_tabO (pc := 35) 157 dX12_shows_35 (by decide) (by decide) ?_
    refine gq_iload_n (pc := 157) dX12_shows_157 rfl ?_
    refine gq_bipush (pc := 158) dX12_shows_158 kb_10 ?_
    refine gq_irem (pc := 160) dX12_shows_160 (by decide) (rfl : _ = p_rem _ _) ?_
    exact gq_iret (pc := 161) rfl dX12_shows_161 ⟨by first | (unfold p_shows; rw [ek]; rfl) | (unfold p_shows; rw [ek]; simp only [h_111, if_true, if_false]; rfl), rfl⟩
  · refine gq_tabI (pc := 35) (off := 37) 72 dX12_shows_35 (by decide) (by decide) (by decide) (by decide) ?_
    refine gq_iload_n (pc := 72) dX12_shows_72 rfl ?_
    refine gq_iload_n (pc := 73) dX12_shows_73 rfl ?_
    refine gq_iadd (pc := 74) dX12_shows_74 ?_
    refine gq_bipush (pc := 75) dX12_shows_75 kb_10 ?_
    refine gq_irem (pc := 77) dX12_shows_77 (by decide) (rfl : _ = p_rem _ _) ?_
    exact gq_iret (pc := 78) rfl dX12_shows_78 ⟨by first | (unfold p_shows; rw [ek]; rfl) | (unfold p_shows; rw [ek]; simp only [h_111, if_true, if_false]; rfl), rfl⟩
  · refine gq_tabI (pc := 35) (off := 60) 95 dX12_shows_35 (by decide) (by decide) (by decide) (by decide) ?_
    refine gq_bipush (pc := 95) dX12_shows_95 kb_9 ?_
    refine gq_iload_n (pc := 97) dX12_shows_97 rfl ?_
    refine gq_bipush (pc := 98) dX12_shows_98 kb_10 ?_
    refine gq_irem (pc := 100) dX12_shows_100 (by decide) (rfl : _ = p_rem _ _) ?_
    refine gq_isub (pc := 101) dX12_shows_101 ?_
    exact gq_iret (pc := 102) rfl dX12_shows_102 ⟨by first | (unfold p_shows; rw [ek]; rfl) | (unfold p_shows; rw [ek]; simp only [h_111, if_true, if_false]; rfl), rfl⟩
  · refine gq_tabI (pc := 35) (off := 96) 131 dX12_shows_35 (by decide) (by decide) (by decide) (by decide) ?_
    refine gq_aload_n (pc := 131) dX12_shows_131 rfl ?_
    refine gq_iload_n (pc := 132) dX12_shows_132 rfl ?_
    refine gq_iconst (pc := 133) dX12_shows_133 kc_2 ?_
    refine gq_rV2i (pc := 134) dX12_shows_134 cv_X12_69 sh_76 (k_its (by first | assumption | rfl) kl_2 (by omega)) ⟨by decide, by decide⟩ rfl rfl (Nat.le_of_ble_eq_true rfl) ?_
    exact gq_iret (pc := 137) rfl dX12_shows_137 ⟨by first | (unfold p_shows; rw [ek]; rfl) | (unfold p_shows; rw [ek]; simp only [h_111, if_true, if_false]; rfl), rfl⟩
  · refine gq_tabI (pc := 35) (off := 44) 79 dX12_shows_35 (by decide) (by decide) (by decide) (by decide) ?_
    refine gq_iload_n (pc := 79) dX12_shows_79 rfl ?_
    refine gq_iload_n (pc := 80) dX12_shows_80 rfl ?_
    refine gq_iadd (pc := 81) dX12_shows_81 ?_
    refine gq_aload_n (pc := 82) dX12_shows_82 rfl ?_
    refine gq_iload_n (pc := 83) dX12_shows_83 rfl ?_
    refine gq_iconst (pc := 84) dX12_shows_84 kc_3 ?_
    refine gq_rV2i (pc := 85) dX12_shows_85 cv_X12_69 sh_76 (k_its (by first | assumption | rfl) kl_3 (by omega)) ⟨by decide, by decide⟩ rfl rfl (Nat.le_of_ble_eq_true rfl) ?_
    refine gq_iconst (pc := 88) dX12_shows_88 kc_3 ?_
    refine gq_irem (pc := 89) dX12_shows_89 (by decide) (rfl : _ = p_rem _ _) ?_
    refine gq_iadd (pc := 90) dX12_shows_90 ?_
    refine gq_bipush (pc := 91) dX12_shows_91 kb_10 ?_
    refine gq_irem (pc := 93) dX12_shows_93 (by decide) (rfl : _ = p_rem _ _) ?_
    exact gq_iret (pc := 94) rfl dX12_shows_94 ⟨by first | (unfold p_shows; rw [ek]; rfl) | (unfold p_shows; rw [ek]; simp only [h_111, if_true, if_false]; rfl), rfl⟩
  · refine gq_tabI (pc := 35) (off := 68) 103 dX12_shows_35 (by decide) (by decide) (by decide) (by decide) ?_
    refine gq_aload_n (pc := 103) dX12_shows_103 rfl ?_
    refine gq_getr (pc := 104) dX12_shows_104 fl_X12_7_12 sh_76 rfl ?_
    refine gq_iconst (pc := 107) dX12_shows_107 kc_0 ?_
    refine qm_ald (pc := 108) dX12_shows_108 kl_0 (by first | decide | omega) ?_
    refine gq_iconst (pc := 109) dX12_shows_109 kc_4 ?_
    refine gq_irem (pc := 110) dX12_shows_110 (by decide) (rfl : _ = p_rem _ _) ?_
    refine gq_if_ne (pc := 111) 123 dX12_shows_111 (by decide) (fun h_111 => ?_) (fun h_111 => ?_)
    · refine gq_bipush (pc := 123) dX12_shows_123 kb_9 ?_
      refine gq_iload_n (pc := 125) dX12_shows_125 rfl ?_
      refine gq_bipush (pc := 126) dX12_shows_126 kb_10 ?_
      refine gq_irem (pc := 128) dX12_shows_128 (by decide) (rfl : _ = p_rem _ _) ?_
      refine gq_isub (pc := 129) dX12_shows_129 ?_
      exact gq_iret (pc := 130) rfl dX12_shows_130 ⟨by first | (unfold p_shows; rw [ek]; rfl) | (unfold p_shows; rw [ek]; simp only [h_111, if_true, if_false]; rfl), rfl⟩
    · refine gq_aload_n (pc := 114) dX12_shows_114 rfl ?_
      refine gq_iload_n (pc := 115) dX12_shows_115 rfl ?_
      refine gq_iconst (pc := 116) dX12_shows_116 kc_2 ?_
      refine gq_rV2i (pc := 117) dX12_shows_117 cv_X12_69 sh_76 (k_its (by first | assumption | rfl) kl_2 (by omega)) ⟨by decide, by decide⟩ rfl rfl (Nat.le_of_ble_eq_true rfl) ?_
      refine gq_goto (pc := 120) 130 dX12_shows_120 (by decide) ?_
      exact gq_iret (pc := 130) rfl dX12_shows_130 ⟨by first | (unfold p_shows; rw [ek]; rfl) | (unfold p_shows; rw [ek]; simp only [h_111, if_true, if_false]; rfl), rfl⟩
  · refine gq_tabI (pc := 35) (off := 103) 138 dX12_shows_35 (by decide) (by decide) (by decide) (by decide) ?_
    refine gq_aload_n (pc := 138) dX12_shows_138 rfl ?_
    refine gq_iload_n (pc := 139) dX12_shows_139 rfl ?_
    refine gq_iconst (pc := 140) dX12_shows_140 kc_2 ?_
    refine gq_rV2i (pc := 141) dX12_shows_141 cv_X12_69 sh_76 (k_its (by first | assumption | rfl) kl_2 (by omega)) ⟨by decide, by decide⟩ rfl rfl (Nat.le_of_ble_eq_true rfl) ?_
    refine gq_aload_n (pc := 144) dX12_shows_144 rfl ?_
    refine gq_getr (pc := 145) dX12_shows_145 fl_X12_7_12 sh_76 rfl ?_
    refine gq_iconst (pc := 148) dX12_shows_148 kc_0 ?_
    refine qm_ald (pc := 149) dX12_shows_149 kl_0 (by first | decide | omega) ?_
    refine gq_iconst (pc := 150) dX12_shows_150 kc_2 ?_
    refine gq_irem (pc := 151) dX12_shows_151 (by decide) (rfl : _ = p_rem _ _) ?_
    refine gq_iadd (pc := 152) dX12_shows_152 ?_
    refine gq_bipush (pc := 153) dX12_shows_153 kb_10 ?_
    refine gq_irem (pc := 155) dX12_shows_155 (by decide) (rfl : _ = p_rem _ _) ?_
    exact gq_iret (pc := 156) rfl dX12_shows_156 ⟨by first | (unfold p_shows; rw [ek]; rfl) | (unfold p_shows; rw [ek]; simp only [h_111, if_true, if_false]; rfl), rfl⟩
set_option maxHeartbeats 400000 in
theorem k_heavy {e : Int32} {j : Nat} (hI : p_inv c r) (he : e = nI j) (hj : j < 8) : ge_N X ge_SH YX12_heavy 1 [.ref (ge_ad X.1 76), .int e] (ge_m g r f) (some (.int (p_heavy r j))) (ge_m g r f) := by
  refine gq_ofB (l := [(0, .ref (ge_ad X.1 76)), (1, .int e)]) (by decide) (Nat.le_of_ble_eq_true rfl) rfl ?_
  refine gq_aload_n (pc := 0) dX12_heavy_0 rfl ?_
  refine gq_iload_n (pc := 1) dX12_heavy_1 rfl ?_
  refine gq_iconst (pc := 2) dX12_heavy_2 kc_0 ?_
  refine gq_rV2i (pc := 3) dX12_heavy_3 cv_X12_69 sh_76 (k_its (by first | assumption | rfl) kl_0 (by omega)) ⟨by decide, by decide⟩ rfl rfl (Nat.le_of_ble_eq_true rfl) ?_
  obtain ⟨k, hk, ek⟩ := (hI.2.2.2.2.1 j hj).1
  rw [ek]
  rcases (by omega : k = 0 ∨ k = 1 ∨ k = 2 ∨ k = 3 ∨ k = 4 ∨ k = 5 ∨ k = 6) with rfl | rfl | rfl | rfl | rfl | rfl | rfl
  · refine gq_tabO (pc := 6) 57 dX12_heavy_6 (by decide) (by decide) ?_
    refine gq_iconst (pc := 57) dX12_heavy_57 kc_1 ?_
    exact gq_iret (pc := 58) rfl dX12_heavy_58 ⟨by first | (unfold p_heavy; rw [ek]; rfl) | (unfold p_heavy; rw [ek]; simp only [h_46, if_true, if_false]; rfl), rfl⟩
  · refine gq_tabO (pc := 6) 57 dX12_heavy_6 (by decide) (by decide) ?_
    refine gq_iconst (pc := 57) dX12_heavy_57 kc_1 ?_
    exact gq_iret (pc := 58) rfl dX12_heavy_58 ⟨by first | (unfold p_heavy; rw [ek]; rfl) | (unfold p_heavy; rw [ek]; simp only [h_46, if_true, if_false]; rfl), rfl⟩
  · refine gq_tabI (pc := 6) (off := 30) 36 dX12_heavy_6 (by decide) (by decide) (by decide) (by decide) ?_
    refine gq_iconst (pc := 36) dX12_heavy_36 kc_2 ?_
    exact gq_iret (pc := 37) rfl dX12_heavy_37 ⟨by first | (unfold p_heavy; rw [ek]; rfl) | (unfold p_heavy; rw [ek]; simp only [h_46, if_true, if_false]; rfl), rfl⟩
  · refine gq_tabI (pc := 6) (off := 51) 57 dX12_heavy_6 (by decide) (by decide) (by decide) (by decide) ?_
    refine gq_iconst (pc := 57) dX12_heavy_57 kc_1 ?_
    exact gq_iret (pc := 58) rfl dX12_heavy_58 ⟨by first | (unfold p_heavy; rw [ek]; rfl) | (unfold p_heavy; rw [ek]; simp only [h_46, if_true, if_false]; rfl), rfl⟩
  · refine gq_tabI (pc := 6) (off := 49) 55 dX12_heavy_6 (by decide) (by decide) (by decide) (by decide) ?_
    refine gq_iconst (pc := 55) dX12_heavy_55 kc_0 ?_
    exact gq_iret (pc := 56) rfl dX12_heavy_56 ⟨by first | (unfold p_heavy; rw [ek]; rfl) | (unfold p_heavy; rw [ek]; simp only [h_46, if_true, if_false]; rfl), rfl⟩
  · refine gq_tabI (pc := 6) (off := 32) 38 dX12_heavy_6 (by decide) (by decide) (by decide) (by decide) ?_
    refine gq_aload_n (pc := 38) dX12_heavy_38 rfl ?_
    refine gq_getr (pc := 39) dX12_heavy_39 fl_X12_7_12 sh_76 rfl ?_
    refine gq_iconst (pc := 42) dX12_heavy_42 kc_0 ?_
    refine qm_ald (pc := 43) dX12_heavy_43 kl_0 (by first | decide | omega) ?_
    refine gq_iconst (pc := 44) dX12_heavy_44 kc_4 ?_
    refine gq_irem (pc := 45) dX12_heavy_45 (by decide) (rfl : _ = p_rem _ _) ?_
    refine gq_if_ne (pc := 46) 53 dX12_heavy_46 (by decide) (fun h_46 => ?_) (fun h_46 => ?_)
    · refine gq_iconst (pc := 53) dX12_heavy_53 kc_2 ?_
      exact gq_iret (pc := 54) rfl dX12_heavy_54 ⟨by first | (unfold p_heavy; rw [ek]; rfl) | (unfold p_heavy; rw [ek]; simp only [h_46, if_true, if_false]; rfl), rfl⟩
    · refine gq_iconst (pc := 49) dX12_heavy_49 kc_0 ?_
      refine gq_goto (pc := 50) 54 dX12_heavy_50 (by decide) ?_
      exact gq_iret (pc := 54) rfl dX12_heavy_54 ⟨by first | (unfold p_heavy; rw [ek]; rfl) | (unfold p_heavy; rw [ek]; simp only [h_46, if_true, if_false]; rfl), rfl⟩
  · refine gq_tabO (pc := 6) 57 dX12_heavy_6 (by decide) (by decide) ?_
    refine gq_iconst (pc := 57) dX12_heavy_57 kc_1 ?_
    exact gq_iret (pc := 58) rfl dX12_heavy_58 ⟨by first | (unfold p_heavy; rw [ek]; rfl) | (unfold p_heavy; rw [ek]; simp only [h_46, if_true, if_false]; rfl), rfl⟩
set_option maxHeartbeats 400000 in
theorem k_heeded {w : Int32} {i : Nat} (hI : p_inv c r) (hw : w = nI i) (hi : i < 6) (h0 : p_eo (p_o r i 0)) (h1 : p_eo (p_o r i 1)) : ge_N X ge_SH YX12_heeded 42 [.ref (ge_ad X.1 76), .int w] (ge_m g r f) (some (.int (p_heeded r i))) (ge_m g r f) := by
  refine gq_ofB (l := [(0, .ref (ge_ad X.1 76)), (1, .int w)]) (by decide) (Nat.le_of_ble_eq_true rfl) rfl ?_
  refine gq_aload_n (pc := 0) dX12_heeded_0 rfl ?_
  refine gq_iload_n (pc := 1) dX12_heeded_1 rfl ?_
  refine gq_iconst (pc := 2) dX12_heeded_2 kc_0 ?_
  refine gq_rV2i (pc := 3) dX12_heeded_3 cv_X12_63 sh_76 (k_ones (by first | assumption | rfl) kl_0 (by omega)) ⟨by decide, by decide⟩ rfl rfl (Nat.le_of_ble_eq_true rfl) ?_
  refine gq_istore_n (pc := 6) (l' := [(2, _), (0, _), (1, _)]) dX12_heeded_6 (by decide) rfl ?_
  refine gq_aload_n (pc := 7) dX12_heeded_7 rfl ?_
  refine gq_iload_n (pc := 8) dX12_heeded_8 rfl ?_
  refine gq_iconst (pc := 9) dX12_heeded_9 kc_1 ?_
  refine gq_rV2i (pc := 10) dX12_heeded_10 cv_X12_63 sh_76 (k_ones (by first | assumption | rfl) kl_1 (by omega)) ⟨by decide, by decide⟩ rfl rfl (Nat.le_of_ble_eq_true rfl) ?_
  refine gq_istore_n (pc := 13) (l' := [(3, _), (2, _), (0, _), (1, _)]) dX12_heeded_13 (by decide) rfl ?_
  refine gq_iload_n (pc := 14) dX12_heeded_14 rfl ?_
  refine gq_if_lt (pc := 15) 22 dX12_heeded_15 (by decide) (fun h_15 => ?_) (fun h_15 => ?_)
  · refine gq_iload_n (pc := 22) dX12_heeded_22 rfl ?_
    refine gq_if_ge (pc := 23) 30 dX12_heeded_23 (by decide) (fun h_23 => ?_) (fun h_23 => ?_)
    · exact absurd h_23 (Int32.not_le.mpr h_15)
    · refine gq_iload_n (pc := 26) dX12_heeded_26 rfl ?_
      refine gq_goto (pc := 27) 31 dX12_heeded_27 (by decide) ?_
      exact gq_iret (pc := 31) rfl dX12_heeded_31 ⟨by rw [p_heeded, if_pos h_15], rfl⟩
  · refine gq_iload_n (pc := 18) dX12_heeded_18 rfl ?_
    refine gq_if_ge (pc := 19) 32 dX12_heeded_19 (by decide) (fun h_19 => ?_) (fun h_19 => ?_)
    · obtain ⟨q0, q1⟩ := p_eo_n h0 h_15
      obtain ⟨q2, q3⟩ := p_eo_n h1 (Int32.not_lt.mpr h_19)
      refine gq_aload_n (pc := 32) dX12_heeded_32 rfl ?_
      refine gq_iconst (pc := 33) dX12_heeded_33 kc_1 ?_
      refine gq_aload_n (pc := 34) dX12_heeded_34 rfl ?_
      refine gq_iload_n (pc := 35) dX12_heeded_35 rfl ?_
      refine gq_rV1i (pc := 36) dX12_heeded_36 cv_X12_75 sh_76 (k_shows hI q0 q1) ⟨by decide, by decide⟩ rfl rfl (Nat.le_of_ble_eq_true rfl) ?_
      refine gq_aload_n (pc := 39) dX12_heeded_39 rfl ?_
      refine gq_iload_n (pc := 40) dX12_heeded_40 rfl ?_
      refine gq_rV1i (pc := 41) dX12_heeded_41 cv_X12_75 sh_76 (k_shows hI q2 q3) ⟨by decide, by decide⟩ rfl rfl (Nat.le_of_ble_eq_true rfl) ?_
      refine gq_aload_n (pc := 44) dX12_heeded_44 rfl ?_
      refine gq_getr (pc := 45) dX12_heeded_45 fl_X12_7_12 sh_76 rfl ?_
      refine gq_iconst (pc := 48) dX12_heeded_48 kc_0 ?_
      refine qm_ald (pc := 49) dX12_heeded_49 kl_0 (by first | decide | omega) ?_
      refine gq_bipush (pc := 50) dX12_heeded_50 kb_12 ?_
      refine gq_irem (pc := 52) dX12_heeded_52 (by decide) (rfl : _ = p_rem _ _) ?_
      refine gq_rV4i (pc := 53) dX12_heeded_53 cv_X12_165 sh_76 (k_lawOf kl_1 (by decide) hI.2.1) ⟨by decide, by decide⟩ rfl rfl (Nat.le_of_ble_eq_true rfl) ?_
      refine gq_if_eq (pc := 56) 63 dX12_heeded_56 (by decide) (fun h_56 => ?_) (fun h_56 => ?_)
      · refine gq_iload_n (pc := 63) dX12_heeded_63 rfl ?_
        exact gq_iret (pc := 64) rfl dX12_heeded_64 ⟨by rw [p_heeded, if_neg h_15, if_neg (Int32.not_lt.mpr h_19)]; first | rw [if_pos h_56] | rw [if_neg h_56], rfl⟩
      · refine gq_iload_n (pc := 59) dX12_heeded_59 rfl ?_
        refine gq_goto (pc := 60) 64 dX12_heeded_60 (by decide) ?_
        exact gq_iret (pc := 64) rfl dX12_heeded_64 ⟨by rw [p_heeded, if_neg h_15, if_neg (Int32.not_lt.mpr h_19)]; first | rw [if_pos h_56] | rw [if_neg h_56], rfl⟩
    · refine gq_iload_n (pc := 22) dX12_heeded_22 rfl ?_
      refine gq_if_ge (pc := 23) 30 dX12_heeded_23 (by decide) (fun h_23 => ?_) (fun h_23 => ?_)
      · refine gq_iload_n (pc := 30) dX12_heeded_30 rfl ?_
        exact gq_iret (pc := 31) rfl dX12_heeded_31 ⟨by rw [p_heeded, if_neg h_15, if_pos (Int32.not_le.mp h_19)], rfl⟩
      · exact absurd (Int32.not_lt.mp h_15) h_23
set_option maxHeartbeats 400000 in
theorem k_wears {e : Int32} (h0 : p_eo e) : ge_N X ge_SH YX12_wears 1 [.ref (ge_ad X.1 76), .int e] (ge_m g r f) none (ge_m g (p_wear r e) f) := by
  refine gq_ofB (l := [(0, .ref (ge_ad X.1 76)), (1, .int e)]) (by decide) (Nat.le_of_ble_eq_true rfl) rfl ?_
  refine gq_iload_n (pc := 0) dX12_wears_0 rfl ?_
  refine gq_if_lt (pc := 1) 25 dX12_wears_1 (by decide) (fun h_1 => ?_) (fun h_1 => ?_)
  · exact gq_vret (pc := 25) rfl dX12_wears_25 ⟨rfl, by first | rw [p_wear, if_pos h_1] | rw [p_wear, if_neg h_1]⟩
  · obtain ⟨q0, q1⟩ := p_eo_n h0 h_1
    refine gq_aload_n (pc := 4) dX12_wears_4 rfl ?_
    refine gq_iload_n (pc := 5) dX12_wears_5 rfl ?_
    refine gq_iconst (pc := 6) dX12_wears_6 kc_3 ?_
    refine gq_aload_n (pc := 7) dX12_wears_7 rfl ?_
    refine gq_iload_n (pc := 8) dX12_wears_8 rfl ?_
    refine gq_iconst (pc := 9) dX12_wears_9 kc_3 ?_
    refine gq_rV2i (pc := 10) dX12_wears_10 cv_X12_69 sh_76 (k_its q0 kl_3 (by omega)) ⟨by decide, by decide⟩ rfl rfl (Nat.le_of_ble_eq_true rfl) ?_
    refine gq_iconst (pc := 13) dX12_wears_13 kc_1 ?_
    refine gq_iadd (pc := 14) dX12_wears_14 ?_
    refine gq_iconst (pc := 15) dX12_wears_15 kc_0 ?_
    refine gq_sipush (pc := 16) dX12_wears_16 kq_9999 ?_
    refine gq_rS3i (pc := 19) dX12_wears_19 cs_X12_161 (k_held _ _ _) ⟨by decide, by decide⟩ (Nat.le_of_ble_eq_true rfl) ?_
    refine gq_rV3v (pc := 22) dX12_wears_22 cv_X12_59 sh_76 (k_gets q0 kl_3 (by omega)) ⟨by decide, by decide⟩ rfl rfl (Nat.le_of_ble_eq_true rfl) ?_
    exact gq_vret (pc := 25) rfl dX12_wears_25 ⟨rfl, by first | rw [p_wear, if_pos h_1] | rw [p_wear, if_neg h_1]⟩
/-- the two numbers of an hour: who took one out, what was borne -/
def p_tb (f : Nat → Int32) (t b : Int32) : Nat → Int32 := fun k => if k = 15 then t else if k = 16 then b else f k
theorem p_tb_15 (f : Nat → Int32) (t b x : Int32) : upd (p_tb f t b) 15 x = p_tb f x b := by
  funext k; by_cases h : k = 15 <;> simp [upd, p_tb, h]
theorem p_tb_16 (f : Nat → Int32) (t b x : Int32) : upd (p_tb f t b) 16 x = p_tb f t x := by
  funext k; by_cases h : k = 16 <;> simp [upd, p_tb, h]
theorem p_tb_self (f : Nat → Int32) : p_tb f (f 15) (f 16) = f := by
  funext k
  by_cases h : k = 15
  · subst h; rfl
  · by_cases h2 : k = 16
    · subst h2; rfl
    · simp [p_tb, h, h2]
theorem p_tb_tb (f : Nat → Int32) (t b t' b' : Int32) : p_tb (p_tb f t b) t' b' = p_tb f t' b' := by
  funext k; by_cases h : k = 15 <;> by_cases h2 : k = 16 <;> simp [p_tb, h, h2]
theorem qw_get {y : ge_Y} {d : Nat} {Q : Option Value → ge_G → Prop} {l : List (Nat × Value)} {s0 : List Value} {pc idx k : Nat} {fs : List ge_F} {v : Int32} (dg : decode y.2.1 pc = .ok (.getfield idx, 3)) (hf : ge_fl y.1.cls idx 12 k) (hs : ge_SH[76]? = some (.inl (12, fs))) (hb : fs[k]? = some none) (hv : f k = v) (hz : k < 7 ∨ 14 < k)
    (kk : ge_B X ge_SH y d Q (pc + 3) l (.int v :: s0) (ge_m g r f)) : ge_B X ge_SH y d Q pc l (.ref (ge_ad X.1 76) :: s0) (ge_m g r f) := qm_geti dg hf hs hb hz (by rw [hv]; exact kk)
theorem qw_tk {y : ge_Y} {d : Nat} {Q : Option Value → ge_G → Prop} {l : List (Nat × Value)} {s0 : List Value} {pc idx : Nat} {fs : List ge_F} {x t b : Int32} (dg : decode y.2.1 pc = .ok (.putfield idx, 3)) (hf : ge_fp y.1.cls idx 12 15 .int) (hs : ge_SH[76]? = some (.inl (12, fs))) (hb : fs[15]? = some none)
    (kk : ge_B X ge_SH y d Q (pc + 3) l s0 (ge_m g r (p_tb f x b))) : ge_B X ge_SH y d Q pc l (.int x :: .ref (ge_ad X.1 76) :: s0) (ge_m g r (p_tb f t b)) := qm_puti dg hf hs hb (by rw [p_tb_15]; exact kk)
theorem qw_bo {y : ge_Y} {d : Nat} {Q : Option Value → ge_G → Prop} {l : List (Nat × Value)} {s0 : List Value} {pc idx : Nat} {fs : List ge_F} {x t b : Int32} (dg : decode y.2.1 pc = .ok (.putfield idx, 3)) (hf : ge_fp y.1.cls idx 12 16 .int) (hs : ge_SH[76]? = some (.inl (12, fs))) (hb : fs[16]? = some none)
    (kk : ge_B X ge_SH y d Q (pc + 3) l s0 (ge_m g r (p_tb f t x))) : ge_B X ge_SH y d Q pc l (.int x :: .ref (ge_ad X.1 76) :: s0) (ge_m g r (p_tb f t b)) := qm_puti dg hf hs hb (by rw [p_tb_16]; exact kk)
set_option maxHeartbeats 2000000 in
theorem k_looksOn {w e t b : Int32} {i j : Nat} (hI : p_inv c r) (hw : w = nI i) (hi : i < 6) (he : e = nI j) (hj : j < 8) (h0 : p_eo (p_o r i 0)) (h1 : p_eo (p_o r i 1)) : ge_N X ge_SH YX12_looksOn 42 [.ref (ge_ad X.1 76), .int w, .int e] (ge_m g r (p_tb f t b)) none (ge_m g (p_look r i j) (p_tb f (if p_left r i j = 0 then t ||| ((1 : Int32) <<< (nI i &&& 31)) else t) (b + (p_o r i 2 - p_left r i j)))) := by
  obtain ⟨q, hq, eq⟩ := p_shows_in hI hj
  have et : p_shows r j = nI (p_n (p_shows r j)) := by rw [eq, p_n_nI (by omega)]
  have ht : p_n (p_shows r j) < 10 := by rw [eq, p_n_nI (by omega)]; exact hq
  have b0 : p_eo (p_o (p_look1 r i j) i 0) := by rw [p_o_look1 i j 0 (by omega)]; exact h0
  have b1 : p_eo (p_o (p_wear1 (p_look1 r i j) i) i 1) := by unfold p_wear1; rw [p_o_wear b0, p_o_look1 i j 1 (by omega)]; exact h1
  refine gq_ofB (l := [(0, .ref (ge_ad X.1 76)), (1, .int w), (2, .int e)]) (by decide) (Nat.le_of_ble_eq_true rfl) rfl ?_
  refine gq_aload_n (pc := 0) dX12_looksOn_0 rfl ?_
  refine gq_iload_n (pc := 1) dX12_looksOn_1 rfl ?_
  refine gq_rV1i (pc := 2) dX12_looksOn_2 cv_X12_75 sh_76 (k_shows hI (by assumption) (by omega)) ⟨by decide, by decide⟩ rfl rfl (Nat.le_of_ble_eq_true rfl) ?_
  refine gq_istore_n (pc := 5) (l' := [(3, _), (0, _), (1, _), (2, _)]) dX12_looksOn_5 (by decide) rfl ?_
  refine gq_aload_n (pc := 6) dX12_looksOn_6 rfl ?_
  refine gq_iload_n (pc := 7) dX12_looksOn_7 rfl ?_
  refine gq_rV1i (pc := 8) dX12_looksOn_8 cv_X12_78 sh_76 (k_heavy hI (by assumption) (by omega)) ⟨by decide, by decide⟩ rfl rfl (Nat.le_of_ble_eq_true rfl) ?_
  refine gq_aload_n (pc := 11) dX12_looksOn_11 rfl ?_
  refine gq_getr (pc := 12) dX12_looksOn_12 fl_X12_7_12 sh_76 rfl ?_
  refine gq_bipush (pc := 15) dX12_looksOn_15 kb_8 ?_
  refine gq_iload_n (pc := 17) dX12_looksOn_17 rfl ?_
  refine gq_iadd (pc := 18) dX12_looksOn_18 ?_
  refine qm_ald (pc := 19) dX12_looksOn_19 (ge_nadd kl_8 et) (by omega) ?_
  refine gq_imul (pc := 20) dX12_looksOn_20 ?_
  refine gq_istore (pc := 21) (l' := [(4, _), (3, _), (0, _), (1, _), (2, _)]) dX12_looksOn_21 (by decide) rfl ?_
  refine gq_aload_n (pc := 23) dX12_looksOn_23 rfl ?_
  refine gq_iload_n (pc := 24) dX12_looksOn_24 rfl ?_
  refine gq_iconst (pc := 25) dX12_looksOn_25 kc_2 ?_
  refine gq_rV2i (pc := 26) dX12_looksOn_26 cv_X12_63 sh_76 (k_ones (by first | assumption | rfl) kl_2 (by omega)) ⟨by decide, by decide⟩ rfl rfl (Nat.le_of_ble_eq_true rfl) ?_
  refine gq_iload (pc := 29) dX12_looksOn_29 rfl ?_
  refine gq_cutc (J := 47) (p_left r i j) ?_ (fun J_47 => ?_)
  · refine gq_istore (pc := 47) (l' := [(5, _), (4, _), (3, _), (0, _), (1, _), (2, _)]) dX12_looksOn_47 (by decide) rfl ?_
    refine gq_aload_n (pc := 49) dX12_looksOn_49 rfl ?_
    refine gq_dup (pc := 50) dX12_looksOn_50 rfl ?_
    refine qw_get (v := b) (pc := 51) dX12_looksOn_51 fl_X12_174_12 sh_76 rfl rfl (by decide) ?_
    refine gq_aload_n (pc := 54) dX12_looksOn_54 rfl ?_
    refine gq_iload_n (pc := 55) dX12_looksOn_55 rfl ?_
    refine gq_iconst (pc := 56) dX12_looksOn_56 kc_2 ?_
    refine gq_rV2i (pc := 57) dX12_looksOn_57 cv_X12_63 sh_76 (k_ones (by first | assumption | rfl) kl_2 (by omega)) ⟨by decide, by decide⟩ rfl rfl (Nat.le_of_ble_eq_true rfl) ?_
    refine gq_iload (pc := 60) dX12_looksOn_60 rfl ?_
    refine gq_isub (pc := 62) dX12_looksOn_62 ?_
    refine gq_iadd (pc := 63) dX12_looksOn_63 ?_
    refine qw_bo (pc := 64) dX12_looksOn_64 fp_X12_174_12 sh_76 rfl ?_
    refine gq_aload_n (pc := 67) dX12_looksOn_67 rfl ?_
    refine gq_iload_n (pc := 68) dX12_looksOn_68 rfl ?_
    refine gq_iconst (pc := 69) dX12_looksOn_69 kc_3 ?_
    refine gq_aload_n (pc := 70) dX12_looksOn_70 rfl ?_
    refine gq_iload_n (pc := 71) dX12_looksOn_71 rfl ?_
    refine gq_iconst (pc := 72) dX12_looksOn_72 kc_3 ?_
    refine gq_rV2i (pc := 73) dX12_looksOn_73 cv_X12_63 sh_76 (k_ones (by first | assumption | rfl) kl_3 (by omega)) ⟨by decide, by decide⟩ rfl rfl (Nat.le_of_ble_eq_true rfl) ?_
    refine gq_iconst (pc := 76) dX12_looksOn_76 kc_1 ?_
    refine gq_iload_n (pc := 77) dX12_looksOn_77 rfl ?_
    refine gq_ishl (pc := 78) dX12_looksOn_78 ?_
    refine gq_ior (pc := 79) dX12_looksOn_79 ?_
    refine gq_rV3v (pc := 80) dX12_looksOn_80 cv_X12_81 sh_76 (k_puts (by first | assumption | rfl) kl_3 (by omega)) ⟨by decide, by decide⟩ rfl rfl (Nat.le_of_ble_eq_true rfl) ?_
    refine gq_aload_n (pc := 83) dX12_looksOn_83 rfl ?_
    refine gq_iload_n (pc := 84) dX12_looksOn_84 rfl ?_
    refine gq_iconst (pc := 85) dX12_looksOn_85 kc_2 ?_
    refine gq_iload (pc := 86) dX12_looksOn_86 rfl ?_
    refine gq_rV3v (pc := 88) dX12_looksOn_88 cv_X12_81 sh_76 (k_puts (by first | assumption | rfl) kl_2 (by omega)) ⟨by decide, by decide⟩ rfl rfl (Nat.le_of_ble_eq_true rfl) ?_
    refine gq_tog (g := ge_m g (p_look1 r i j) _) rfl ?_
    refine gq_aload_n (pc := 91) dX12_looksOn_91 rfl ?_
    refine gq_aload_n (pc := 92) dX12_looksOn_92 rfl ?_
    refine gq_iload_n (pc := 93) dX12_looksOn_93 rfl ?_
    refine gq_iconst (pc := 94) dX12_looksOn_94 kc_0 ?_
    refine gq_rV2i (pc := 95) dX12_looksOn_95 cv_X12_63 sh_76 (k_ones (by first | assumption | rfl) kl_0 (by omega)) ⟨by decide, by decide⟩ rfl rfl (Nat.le_of_ble_eq_true rfl) ?_
    refine gq_rV1v (pc := 98) dX12_looksOn_98 cv_X12_177 sh_76 (k_wears b0) ⟨by decide, by decide⟩ rfl rfl (Nat.le_of_ble_eq_true rfl) ?_
    refine gq_tog (g := ge_m g (p_wear1 (p_look1 r i j) i) _) rfl ?_
    refine gq_aload_n (pc := 101) dX12_looksOn_101 rfl ?_
    refine gq_aload_n (pc := 102) dX12_looksOn_102 rfl ?_
    refine gq_iload_n (pc := 103) dX12_looksOn_103 rfl ?_
    refine gq_iconst (pc := 104) dX12_looksOn_104 kc_1 ?_
    refine gq_rV2i (pc := 105) dX12_looksOn_105 cv_X12_63 sh_76 (k_ones (by first | assumption | rfl) kl_1 (by omega)) ⟨by decide, by decide⟩ rfl rfl (Nat.le_of_ble_eq_true rfl) ?_
    refine gq_rV1v (pc := 108) dX12_looksOn_108 cv_X12_177 sh_76 (k_wears b1) ⟨by decide, by decide⟩ rfl rfl (Nat.le_of_ble_eq_true rfl) ?_
    refine gq_tog (g := ge_m g (p_look2 r i j) _) rfl ?_
    refine gq_iload (pc := 111) dX12_looksOn_111 rfl ?_
    refine gq_if_ne (pc := 113) 157 dX12_looksOn_113 (by decide) (fun h_113 => ?_) (fun h_113 => ?_)
    · exact gq_vret (pc := 157) rfl dX12_looksOn_157 ⟨rfl, by unfold p_look; first | (rw [if_neg h_113, if_neg h_113]; done) | (rw [if_pos h_113, if_pos h_113]; unfold p_take; rw [← he]; first | rw [if_pos h_125] | rw [if_neg h_125])⟩
    · refine gq_aload_n (pc := 116) dX12_looksOn_116 rfl ?_
      refine gq_iload_n (pc := 117) dX12_looksOn_117 rfl ?_
      refine gq_aload_n (pc := 118) dX12_looksOn_118 rfl ?_
      refine gq_iload_n (pc := 119) dX12_looksOn_119 rfl ?_
      refine gq_iconst (pc := 120) dX12_looksOn_120 kc_0 ?_
      refine gq_rV2i (pc := 121) dX12_looksOn_121 cv_X12_63 sh_76 (k_ones (by first | assumption | rfl) kl_0 (by omega)) ⟨by decide, by decide⟩ rfl rfl (Nat.le_of_ble_eq_true rfl) ?_
      refine gq_iload_n (pc := 124) dX12_looksOn_124 rfl ?_
      refine gq_ic_ne (pc := 125) 132 dX12_looksOn_125 (by decide) (fun h_125 => ?_) (fun h_125 => ?_)
      · refine gq_iconst (pc := 132) dX12_looksOn_132 kc_1 ?_
        refine gq_iconst (pc := 133) dX12_looksOn_133 kc_m1 ?_
        refine gq_rV3v (pc := 134) dX12_looksOn_134 cv_X12_81 sh_76 (k_puts (by first | assumption | rfl) kl_1 (by omega)) ⟨by decide, by decide⟩ rfl rfl (Nat.le_of_ble_eq_true rfl) ?_
        refine gq_aload_n (pc := 137) dX12_looksOn_137 rfl ?_
        refine gq_iload_n (pc := 138) dX12_looksOn_138 rfl ?_
        refine gq_iconst (pc := 139) dX12_looksOn_139 kc_2 ?_
        refine gq_bipush (pc := 140) dX12_looksOn_140 kb_20 ?_
        refine gq_rV3v (pc := 142) dX12_looksOn_142 cv_X12_81 sh_76 (k_puts (by first | assumption | rfl) kl_2 (by omega)) ⟨by decide, by decide⟩ rfl rfl (Nat.le_of_ble_eq_true rfl) ?_
        refine gq_aload_n (pc := 145) dX12_looksOn_145 rfl ?_
        refine gq_dup (pc := 146) dX12_looksOn_146 rfl ?_
        refine qw_get (v := t) (pc := 147) dX12_looksOn_147 fl_X12_181_12 sh_76 rfl rfl (by decide) ?_
        rw [hw]
        refine gq_iconst (pc := 150) dX12_looksOn_150 kc_1 ?_
        refine gq_iload_n (pc := 151) dX12_looksOn_151 rfl ?_
        refine gq_ishl (pc := 152) dX12_looksOn_152 ?_
        refine gq_ior (pc := 153) dX12_looksOn_153 ?_
        refine qw_tk (pc := 154) dX12_looksOn_154 fp_X12_181_12 sh_76 rfl ?_
        exact gq_vret (pc := 157) rfl dX12_looksOn_157 ⟨rfl, by unfold p_look; first | (rw [if_neg h_113, if_neg h_113]; done) | (rw [if_pos h_113, if_pos h_113]; unfold p_take; rw [← he]; first | rw [if_pos h_125] | rw [if_neg h_125])⟩
      · refine gq_iconst (pc := 128) dX12_looksOn_128 kc_0 ?_
        refine gq_goto (pc := 129) 133 dX12_looksOn_129 (by decide) ?_
        refine gq_iconst (pc := 133) dX12_looksOn_133 kc_m1 ?_
        refine gq_rV3v (pc := 134) dX12_looksOn_134 cv_X12_81 sh_76 (k_puts (by first | assumption | rfl) kl_0 (by omega)) ⟨by decide, by decide⟩ rfl rfl (Nat.le_of_ble_eq_true rfl) ?_
        refine gq_aload_n (pc := 137) dX12_looksOn_137 rfl ?_
        refine gq_iload_n (pc := 138) dX12_looksOn_138 rfl ?_
        refine gq_iconst (pc := 139) dX12_looksOn_139 kc_2 ?_
        refine gq_bipush (pc := 140) dX12_looksOn_140 kb_20 ?_
        refine gq_rV3v (pc := 142) dX12_looksOn_142 cv_X12_81 sh_76 (k_puts (by first | assumption | rfl) kl_2 (by omega)) ⟨by decide, by decide⟩ rfl rfl (Nat.le_of_ble_eq_true rfl) ?_
        refine gq_aload_n (pc := 145) dX12_looksOn_145 rfl ?_
        refine gq_dup (pc := 146) dX12_looksOn_146 rfl ?_
        refine qw_get (v := t) (pc := 147) dX12_looksOn_147 fl_X12_181_12 sh_76 rfl rfl (by decide) ?_
        rw [hw]
        refine gq_iconst (pc := 150) dX12_looksOn_150 kc_1 ?_
        refine gq_iload_n (pc := 151) dX12_looksOn_151 rfl ?_
        refine gq_ishl (pc := 152) dX12_looksOn_152 ?_
        refine gq_ior (pc := 153) dX12_looksOn_153 ?_
        refine qw_tk (pc := 154) dX12_looksOn_154 fp_X12_181_12 sh_76 rfl ?_
        exact gq_vret (pc := 157) rfl dX12_looksOn_157 ⟨rfl, by unfold p_look; first | (rw [if_neg h_113, if_neg h_113]; done) | (rw [if_pos h_113, if_pos h_113]; unfold p_take; rw [← he]; first | rw [if_pos h_125] | rw [if_neg h_125])⟩
  · refine gq_ic_le (pc := 31) 46 dX12_looksOn_31 (by decide) (fun h_31 => ?_) (fun h_31 => ?_)
    · refine gq_iconst (pc := 46) dX12_looksOn_46 kc_0 ?_
      (refine gq_tov ?_ J_47; unfold p_left p_less; first | rw [if_pos h_31] | rw [if_neg h_31])
    · refine gq_aload_n (pc := 34) dX12_looksOn_34 rfl ?_
      refine gq_iload_n (pc := 35) dX12_looksOn_35 rfl ?_
      refine gq_iconst (pc := 36) dX12_looksOn_36 kc_2 ?_
      refine gq_rV2i (pc := 37) dX12_looksOn_37 cv_X12_63 sh_76 (k_ones (by first | assumption | rfl) kl_2 (by omega)) ⟨by decide, by decide⟩ rfl rfl (Nat.le_of_ble_eq_true rfl) ?_
      refine gq_iload (pc := 40) dX12_looksOn_40 rfl ?_
      refine gq_isub (pc := 42) dX12_looksOn_42 ?_
      refine gq_goto (pc := 43) 47 dX12_looksOn_43 (by decide) ?_
      (refine gq_tov ?_ J_47; unfold p_left p_less; first | rw [if_pos h_31] | rw [if_neg h_31])
end H1
