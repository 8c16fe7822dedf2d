section X3
variable {X : ge_X} {g : ge_G} {r x hb f : Nat → Int32} {N u : Nat}
set_option maxHeartbeats 400000 in
theorem m_text_er {v : Int32} (h : p_in v 0 1 = 0) : ge_N X ge_SH YX12_text 45 [.ref (ge_ad X.1 76), .int v] (ge_m g r f) (some (.int (-1000000001))) (ge_m (ge_up g 81 1 (g 81 1 + 1)) r f) := by
  refine gq_ofB (l := [(0, .ref (ge_ad X.1 76)), (1, .int v)]) (by decide) (Nat.le_of_ble_eq_true rfl) rfl ?_
  refine gq_iload_n (pc := 0) dX12_text_0 rfl ?_
  refine gq_iconst (pc := 1) dX12_text_1 kc_0 ?_
  refine gq_iconst (pc := 2) dX12_text_2 kc_1 ?_
  refine gq_rS3i (pc := 3) dX12_text_3 cs_X12_41 (k_in _ _ _) ⟨by decide, by decide⟩ (Nat.le_of_ble_eq_true rfl) ?_
  refine gq_if_ne (pc := 6) 16 dX12_text_6 (by decide) (fun h_6 => ?_) (fun h_6 => ?_)
  · exact absurd h h_6
  · refine gq_aload_n (pc := 9) dX12_text_9 rfl ?_
    refine gq_ldc (pc := 10) dX12_text_10 kn_X12_53 ?_
    refine gq_rV1i (pc := 12) dX12_text_12 cv_X12_54 sh_76 (k_errs (j := 1) (by decide) (by decide)) ⟨by decide, by decide⟩ rfl rfl (Nat.le_of_ble_eq_true rfl) ?_
    exact gq_iret (pc := 15) rfl dX12_text_15 ⟨rfl, rfl⟩
/-- the tape's first k bytes as a text -/
def p_txk (r : Nat → Int32) (u k : Nat) : Nat → Int32 := fun i => if 144 + 50 * u ≤ i ∧ i < 144 + 50 * u + k then r (74 + (i - (144 + 50 * u))) else r i
theorem p_txk_s {k : Nat} (hk : k < 50) : upd (p_txk r u k) (144 + 50 * u + k) (p_txk r u k (74 + k)) = p_txk r u (k + 1) := by
  have e1 : p_txk r u k (74 + k) = r (74 + k) := if_neg (by omega)
  rw [e1]
  funext i
  by_cases h : i = 144 + 50 * u + k
  · subst h
    rw [pk_us]
    unfold p_txk
    rw [if_pos (by omega), show 144 + 50 * u + k - (144 + 50 * u) = k by omega]
  · rw [pk_un h]
    unfold p_txk
    by_cases h2 : 144 + 50 * u ≤ i ∧ i < 144 + 50 * u + k
    · rw [if_pos h2, if_pos (by omega)]
    · rw [if_neg h2, if_neg (by omega)]
def p_txr (r : Nat → Int32) (u : Nat) : Nat → Int32 := upd (p_txk r u 50) (6 + u) (r 4)
theorem p_txr_4 (hu2 : u < 2) : p_txr r u 4 = r 4 := by
  unfold p_txr p_txk
  rw [pk_un (by omega), if_neg (by omega)]
theorem p_txr_6 : p_txr r u (6 + u) = r 4 := pk_us
set_option maxHeartbeats 1000000 in
theorem m_text_ok {v : Int32} (hv : v = nI u) (hu2 : u < 2) (h4 : r 4 = nI N) (hN2 : N ≤ 50) (hq : ((e_all (p_txr r u) u N 1 1 1).1 && decide ((e_all (p_txr r u) u N 1 1 1).2.1 = N)) = true) : ge_N X ge_SH YX12_text 45 [.ref (ge_ad X.1 76), .int v] (ge_m g r f) (some (.int 1)) (ge_m (ge_row g 80 r) (upd (p_txr r u) 4 0) f) := by
  refine gq_ofB (l := [(0, .ref (ge_ad X.1 76)), (1, .int v)]) (by decide) (Nat.le_of_ble_eq_true rfl) rfl ?_
  have fin : ∀ w : Int32, ge_B X ge_SH YX12_text 45 (fun v2 g2 => v2 = (some (.int 1)) ∧ g2 = (ge_m (ge_row g 80 r) (upd (p_txr r u) 4 0) f)) 114 [(4, .int (nI (e_all (p_txr r u) u N 1 1 1).2.1)), (3, .int 1), (2, .int w), (0, .ref (ge_ad X.1 76)), (1, .int v)] [] (ge_m (ge_row g 80 r) (p_txr r u) f) := by
    intro w
    refine gq_iload_n (pc := 114) dX12_text_114 rfl ?_
    refine gq_if_ne (pc := 115) 130 dX12_text_115 (by decide) (fun h_115 => ?_) (fun h_115 => ?_)
    · refine gq_aload_n (pc := 130) dX12_text_130 rfl ?_
      refine gq_getr (pc := 131) dX12_text_131 fl_X12_7_12 sh_76 rfl ?_
      refine gq_iconst (pc := 134) dX12_text_134 kc_4 ?_
      refine gq_iconst (pc := 135) dX12_text_135 kc_0 ?_
      refine qm_ast (pc := 136) dX12_text_136 kl_4 (by first | decide | omega) ?_
      refine gq_iload_n (pc := 137) dX12_text_137 rfl ?_
      refine gq_if_eq (pc := 138) 145 dX12_text_138 (by decide) (fun h_138 => ?_) (fun h_138 => ?_)
      · exact absurd h_138 (by decide)
      · refine gq_iconst (pc := 141) dX12_text_141 kc_1 ?_
        refine gq_goto (pc := 142) 150 dX12_text_142 (by decide) ?_
        exact gq_iret (pc := 150) rfl dX12_text_150 ⟨rfl, rfl⟩
    · exact absurd h_115 (by decide)
  have mid : ge_B X ge_SH YX12_text 45 (fun v2 g2 => v2 = (some (.int 1)) ∧ g2 = (ge_m (ge_row g 80 r) (upd (p_txr r u) 4 0) f)) 81 [(2, .int (nI 50)), (0, .ref (ge_ad X.1 76)), (1, .int v)] [] (ge_m (ge_row g 80 r) (p_txr r u) f) := by
    intro g1 hg
    have e7 : g1 77 = p_txr r u := by funext k; exact hg 77 k (by unfold ge_Z; omega)
    have e1 : g1 = ge_m g1 (p_txr r u) (g1 76) := by rw [← e7, ge_m_self]
    have hx := x_walks (X := X) (g := g1) (r := p_txr r u) (f := g1 76) (u := u) (n := N) (w := v) (A := 1) (B := 1) (C := 1) hv hu2 hN2 (by rw [p_txr_6]; exact h4)
    rw [e1]
    refine ge_aload_n (pc := 81) dX12_text_81 rfl ?_
    refine ge_iload_n (pc := 82) dX12_text_82 rfl ?_
    refine ge_iconst (pc := 83) dX12_text_83 kc_1 ?_
    refine ge_iconst (pc := 84) dX12_text_84 kc_1 ?_
    refine ge_iconst (pc := 85) dX12_text_85 kc_1 ?_
    refine ge_rV4i (pc := 86) dX12_text_86 cv_X12_157 sh_76 hx ⟨by decide, by decide⟩ rfl rfl (Nat.le_of_ble_eq_true rfl) ?_
    refine ge_istore_n (pc := 89) (l' := [(2, _), (0, _), (1, _)]) dX12_text_89 (by decide) rfl ?_
    refine ge_aload_n (pc := 90) dX12_text_90 rfl ?_
    refine gw_get (v := 1) (pc := 91) dX12_text_91 fl_X12_104_12 sh_76 rfl (show p_b ((e_all (p_txr r u) u N 1 1 1).1 && decide ((e_all (p_txr r u) u N 1 1 1).2.1 = N)) = 1 by rw [hq]; rfl) ?_
    refine ge_if_eq (pc := 94) 106 dX12_text_94 (by decide) (fun h_94 => ?_) (fun h_94 => ?_)
    · exact absurd h_94 (by decide)
    · refine ge_iload_n (pc := 97) dX12_text_97 rfl ?_
      refine ge_iload_n (pc := 98) dX12_text_98 rfl ?_
      refine ge_ic_ne (pc := 99) 106 dX12_text_99 (by decide) (fun h_99 => ?_) (fun h_99 => ?_)
      · exact absurd rfl h_99
      · refine ge_iconst (pc := 102) dX12_text_102 kc_1 ?_
        refine ge_goto (pc := 103) 107 dX12_text_103 (by decide) ?_
        refine ge_istore_n (pc := 107) (l' := [(3, _), (2, _), (0, _), (1, _)]) dX12_text_107 (by decide) rfl ?_
        refine ge_aload_n (pc := 108) dX12_text_108 rfl ?_
        refine gw_get (v := nI (e_all (p_txr r u) u N 1 1 1).2.1) (pc := 109) dX12_text_109 fl_X12_108_12 sh_76 rfl rfl ?_
        refine ge_istore (pc := 112) (l' := [(4, _), (3, _), (2, _), (0, _), (1, _)]) dX12_text_112 (by decide) rfl ?_
        refine ge_sub [0, 1, 2, 3, 4] rfl ?_
        refine fin (e_all (p_txr r u) u N 1 1 1).2.2 _ ?_
        intro q k hz
        by_cases h7 : q = 77
        · subst h7; rfl
        · by_cases h6 : q = 76
          · subst h6
            show (p_fw (p_f1 (g1 76) u N 1 1 1) (e_all (p_txr r u) u N 1 1 1).2.1 0 ((e_all (p_txr r u) u N 1 1 1).1 && decide ((e_all (p_txr r u) u N 1 1 1).2.1 = N))) k = f k
            rw [fw_out _ _ _ _ _ _ _ _ _ _ (fun z => hz (Or.inl ⟨rfl, z⟩))]
            exact hg 76 k hz
          · rw [ge_m_o _ _ _ h7 h6, ge_m_o _ _ _ h7 h6]
            have := hg q k hz
            rw [ge_m_o _ _ _ h7 h6] at this
            exact this
  have key : ∀ (m i : Nat), i + m = 50 → ge_B X ge_SH YX12_text 45 (fun v2 g2 => v2 = (some (.int 1)) ∧ g2 = (ge_m (ge_row g 80 r) (upd (p_txr r u) 4 0) f)) 30 [(2, .int (nI i)), (0, .ref (ge_ad X.1 76)), (1, .int v)] [] (ge_m (ge_row g 80 r) (p_txk r u i) f) := by
    intro m
    induction m with
    | zero =>
      intro i hi
      obtain rfl : i = 50 := hi
      refine gq_iload_n (pc := 30) dX12_text_30 rfl ?_
      refine gq_bipush (pc := 31) dX12_text_31 kb_50 ?_
      refine gq_ic_ge (pc := 33) 66 dX12_text_33 (by decide) (fun h_33 => ?_) (fun h_33 => ?_)
      · refine gq_aload_n (pc := 66) dX12_text_66 rfl ?_
        refine gq_getr (pc := 67) dX12_text_67 fl_X12_7_12 sh_76 rfl ?_
        refine gq_bipush (pc := 70) dX12_text_70 kb_6 ?_
        refine gq_iload_n (pc := 72) dX12_text_72 rfl ?_
        refine gq_iadd (pc := 73) dX12_text_73 ?_
        refine gq_aload_n (pc := 74) dX12_text_74 rfl ?_
        refine gq_getr (pc := 75) dX12_text_75 fl_X12_7_12 sh_76 rfl ?_
        refine gq_iconst (pc := 78) dX12_text_78 kc_4 ?_
        refine qm_ald (pc := 79) dX12_text_79 kl_4 (by first | decide | omega) ?_
        refine gq_tov (v := r 4) (show r 4 = p_txk r u 50 4 from (if_neg (by omega)).symm) ?_
        refine qm_ast (pc := 80) dX12_text_80 (ge_nadd kl_6 hv) (by omega) ?_
        refine gq_sub [0, 1, 2] rfl ?_
        exact mid
      · exact absurd (by decide) h_33
    | succ m ih =>
      intro i hi
      refine gq_iload_n (pc := 30) dX12_text_30 rfl ?_
      refine gq_bipush (pc := 31) dX12_text_31 kb_50 ?_
      refine gq_ic_ge (pc := 33) 66 dX12_text_33 (by decide) (fun h_33 => ?_) (fun h_33 => ?_)
      · exact absurd ((nI_leI (a := 50) (b := i) (by omega) (by omega)).mp h_33) (by omega)
      · refine gq_aload_n (pc := 36) dX12_text_36 rfl ?_
        refine gq_getr (pc := 37) dX12_text_37 fl_X12_7_12 sh_76 rfl ?_
        refine gq_sipush (pc := 40) dX12_text_40 kq_144 ?_
        refine gq_bipush (pc := 43) dX12_text_43 kb_50 ?_
        refine gq_iload_n (pc := 45) dX12_text_45 rfl ?_
        refine gq_imul (pc := 46) dX12_text_46 ?_
        refine gq_iadd (pc := 47) dX12_text_47 ?_
        refine gq_iload_n (pc := 48) dX12_text_48 rfl ?_
        refine gq_iadd (pc := 49) dX12_text_49 ?_
        refine gq_aload_n (pc := 50) dX12_text_50 rfl ?_
        refine gq_getr (pc := 51) dX12_text_51 fl_X12_7_12 sh_76 rfl ?_
        refine gq_bipush (pc := 54) dX12_text_54 kb_74 ?_
        refine gq_iload_n (pc := 56) dX12_text_56 rfl ?_
        refine gq_iadd (pc := 57) dX12_text_57 ?_
        refine qm_ald (pc := 58) dX12_text_58 (ge_nadd kl_74 rfl) (by omega) ?_
        refine qm_ast (pc := 59) dX12_text_59 (ge_nadd (ge_nadd kl_144 (ge_nmul kl_50 hv)) rfl) (by omega) ?_
        rw [p_txk_s (by omega)]
        refine gq_iinc (pc := 60) (l' := [(2, _), (0, _), (1, _)]) dX12_text_60 rfl (ge_inc1 i) (by decide) rfl ?_
        refine gq_goto (pc := 63) 30 dX12_text_63 (by decide) ?_
        refine gq_sub [0, 1, 2] rfl ?_
        exact ih (i + 1) (by omega)
  refine gq_iload_n (pc := 0) dX12_text_0 rfl ?_
  refine gq_iconst (pc := 1) dX12_text_1 kc_0 ?_
  refine gq_iconst (pc := 2) dX12_text_2 kc_1 ?_
  refine gq_rS3i (pc := 3) dX12_text_3 cs_X12_41 (k_in _ _ _) ⟨by decide, by decide⟩ (Nat.le_of_ble_eq_true rfl) ?_
  refine gq_if_ne (pc := 6) 16 dX12_text_6 (by decide) (fun h_6 => ?_) (fun h_6 => ?_)
  · refine gq_aload_n (pc := 16) dX12_text_16 rfl ?_
    refine gq_aload_n (pc := 17) dX12_text_17 rfl ?_
    refine gq_getr (pc := 18) dX12_text_18 fl_X12_7_12 sh_76 rfl ?_
    refine gq_aload_n (pc := 21) dX12_text_21 rfl ?_
    refine gq_getr (pc := 22) dX12_text_22 fl_X12_19_12 sh_76 rfl ?_
    refine gq_rV2v (pc := 25) dX12_text_25 cv_X12_170 sh_76 (k_move_to sh_80 (by decide) (by decide)) ⟨by decide, by decide⟩ rfl rfl (Nat.le_of_ble_eq_true rfl) ?_
    refine gq_iconst (pc := 28) dX12_text_28 kc_0 ?_
    refine gq_istore_n (pc := 29) (l' := [(2, _), (0, _), (1, _)]) dX12_text_29 (by decide) rfl ?_
    refine gq_sub [0, 1, 2] rfl ?_
    refine gq_tog (g := ge_m (ge_row g 80 r) (p_txk r u 0) f) (by rw [show p_txk r u 0 = r from by funext i; exact if_neg (by omega)]) ?_
    exact key 50 0 (by omega)
  · exact absurd h_6 (p_in_le (N := 1) hv (by omega) (by decide))
set_option maxHeartbeats 1000000 in
theorem m_text_no {v : Int32} (hv : v = nI u) (hu2 : u < 2) (h4 : r 4 = nI N) (hN2 : N ≤ 50) (hq : ((e_all (p_txr r u) u N 1 1 1).1 && decide ((e_all (p_txr r u) u N 1 1 1).2.1 = N)) = false) : ge_N X ge_SH YX12_text 45 [.ref (ge_ad X.1 76), .int v] (ge_m g r f) (some (.int (-10 - nI (e_all (p_txr r u) u N 1 1 1).2.1))) (ge_m (ge_row g 80 r) (upd r 4 0) f) := by
  refine gq_ofB (l := [(0, .ref (ge_ad X.1 76)), (1, .int v)]) (by decide) (Nat.le_of_ble_eq_true rfl) rfl ?_
  have fin : ∀ w : Int32, ge_B X ge_SH YX12_text 45 (fun v2 g2 => v2 = (some (.int (-10 - nI (e_all (p_txr r u) u N 1 1 1).2.1))) ∧ g2 = (ge_m (ge_row g 80 r) (upd r 4 0) f)) 114 [(4, .int (nI (e_all (p_txr r u) u N 1 1 1).2.1)), (3, .int 0), (2, .int w), (0, .ref (ge_ad X.1 76)), (1, .int v)] [] (ge_m (ge_row g 80 r) (p_txr r u) f) := by
    intro w
    refine gq_iload_n (pc := 114) dX12_text_114 rfl ?_
    refine gq_if_ne (pc := 115) 130 dX12_text_115 (by decide) (fun h_115 => ?_) (fun h_115 => ?_)
    · exact absurd h_115 (by decide)
    · refine gq_aload_n (pc := 118) dX12_text_118 rfl ?_
      refine gq_aload_n (pc := 119) dX12_text_119 rfl ?_
      refine gq_getr (pc := 120) dX12_text_120 fl_X12_19_12 sh_76 rfl ?_
      refine gq_aload_n (pc := 123) dX12_text_123 rfl ?_
      refine gq_getr (pc := 124) dX12_text_124 fl_X12_7_12 sh_76 rfl ?_
      refine gq_rV2v (pc := 127) dX12_text_127 cv_X12_170 sh_76 (k_move_back sh_80 (by decide) (by decide) (by decide)) ⟨by decide, by decide⟩ rfl rfl (Nat.le_of_ble_eq_true rfl) ?_
      refine gq_tog (g := ge_m (ge_row g 80 r) r f) (by rw [ge_row_self]) ?_
      refine gq_aload_n (pc := 130) dX12_text_130 rfl ?_
      refine gq_getr (pc := 131) dX12_text_131 fl_X12_7_12 sh_76 rfl ?_
      refine gq_iconst (pc := 134) dX12_text_134 kc_4 ?_
      refine gq_iconst (pc := 135) dX12_text_135 kc_0 ?_
      refine qm_ast (pc := 136) dX12_text_136 kl_4 (by first | decide | omega) ?_
      refine gq_iload_n (pc := 137) dX12_text_137 rfl ?_
      refine gq_if_eq (pc := 138) 145 dX12_text_138 (by decide) (fun h_138 => ?_) (fun h_138 => ?_)
      · refine gq_bipush (pc := 145) dX12_text_145 kb_m10 ?_
        refine gq_iload (pc := 147) dX12_text_147 rfl ?_
        refine gq_isub (pc := 149) dX12_text_149 ?_
        exact gq_iret (pc := 150) rfl dX12_text_150 ⟨rfl, rfl⟩
      · exact absurd h_138 (by decide)
  have mid : ge_B X ge_SH YX12_text 45 (fun v2 g2 => v2 = (some (.int (-10 - nI (e_all (p_txr r u) u N 1 1 1).2.1))) ∧ g2 = (ge_m (ge_row g 80 r) (upd r 4 0) f)) 81 [(2, .int (nI 50)), (0, .ref (ge_ad X.1 76)), (1, .int v)] [] (ge_m (ge_row g 80 r) (p_txr r u) f) := by
    intro g1 hg
    have e7 : g1 77 = p_txr r u := by funext k; exact hg 77 k (by unfold ge_Z; omega)
    have e1 : g1 = ge_m g1 (p_txr r u) (g1 76) := by rw [← e7, ge_m_self]
    have hx := x_walks (X := X) (g := g1) (r := p_txr r u) (f := g1 76) (u := u) (n := N) (w := v) (A := 1) (B := 1) (C := 1) hv hu2 hN2 (by rw [p_txr_6]; exact h4)
    rw [e1]
    refine ge_aload_n (pc := 81) dX12_text_81 rfl ?_
    refine ge_iload_n (pc := 82) dX12_text_82 rfl ?_
    refine ge_iconst (pc := 83) dX12_text_83 kc_1 ?_
    refine ge_iconst (pc := 84) dX12_text_84 kc_1 ?_
    refine ge_iconst (pc := 85) dX12_text_85 kc_1 ?_
    refine ge_rV4i (pc := 86) dX12_text_86 cv_X12_157 sh_76 hx ⟨by decide, by decide⟩ rfl rfl (Nat.le_of_ble_eq_true rfl) ?_
    refine ge_istore_n (pc := 89) (l' := [(2, _), (0, _), (1, _)]) dX12_text_89 (by decide) rfl ?_
    refine ge_aload_n (pc := 90) dX12_text_90 rfl ?_
    refine gw_get (v := 0) (pc := 91) dX12_text_91 fl_X12_104_12 sh_76 rfl (show p_b ((e_all (p_txr r u) u N 1 1 1).1 && decide ((e_all (p_txr r u) u N 1 1 1).2.1 = N)) = 0 by rw [hq]; rfl) ?_
    refine ge_if_eq (pc := 94) 106 dX12_text_94 (by decide) (fun h_94 => ?_) (fun h_94 => ?_)
    · refine ge_iconst (pc := 106) dX12_text_106 kc_0 ?_
      refine ge_istore_n (pc := 107) (l' := [(3, _), (2, _), (0, _), (1, _)]) dX12_text_107 (by decide) rfl ?_
      refine ge_aload_n (pc := 108) dX12_text_108 rfl ?_
      refine gw_get (v := nI (e_all (p_txr r u) u N 1 1 1).2.1) (pc := 109) dX12_text_109 fl_X12_108_12 sh_76 rfl rfl ?_
      refine ge_istore (pc := 112) (l' := [(4, _), (3, _), (2, _), (0, _), (1, _)]) dX12_text_112 (by decide) rfl ?_
      refine ge_sub [0, 1, 2, 3, 4] rfl ?_
      refine fin (e_all (p_txr r u) u N 1 1 1).2.2 _ ?_
      intro q k hz
      by_cases h7 : q = 77
      · subst h7; rfl
      · by_cases h6 : q = 76
        · subst h6
          show (p_fw (p_f1 (g1 76) u N 1 1 1) (e_all (p_txr r u) u N 1 1 1).2.1 0 ((e_all (p_txr r u) u N 1 1 1).1 && decide ((e_all (p_txr r u) u N 1 1 1).2.1 = N))) k = f k
          rw [fw_out _ _ _ _ _ _ _ _ _ _ (fun z => hz (Or.inl ⟨rfl, z⟩))]
          exact hg 76 k hz
        · rw [ge_m_o _ _ _ h7 h6, ge_m_o _ _ _ h7 h6]
          have := hg q k hz
          rw [ge_m_o _ _ _ h7 h6] at this
          exact this
    · exact absurd h_94 (by decide)
  have key : ∀ (m i : Nat), i + m = 50 → ge_B X ge_SH YX12_text 45 (fun v2 g2 => v2 = (some (.int (-10 - nI (e_all (p_txr r u) u N 1 1 1).2.1))) ∧ g2 = (ge_m (ge_row g 80 r) (upd r 4 0) f)) 30 [(2, .int (nI i)), (0, .ref (ge_ad X.1 76)), (1, .int v)] [] (ge_m (ge_row g 80 r) (p_txk r u i) f) := by
    intro m
    induction m with
    | zero =>
      intro i hi
      obtain rfl : i = 50 := hi
      refine gq_iload_n (pc := 30) dX12_text_30 rfl ?_
      refine gq_bipush (pc := 31) dX12_text_31 kb_50 ?_
      refine gq_ic_ge (pc := 33) 66 dX12_text_33 (by decide) (fun h_33 => ?_) (fun h_33 => ?_)
      · refine gq_aload_n (pc := 66) dX12_text_66 rfl ?_
        refine gq_getr (pc := 67) dX12_text_67 fl_X12_7_12 sh_76 rfl ?_
        refine gq_bipush (pc := 70) dX12_text_70 kb_6 ?_
        refine gq_iload_n (pc := 72) dX12_text_72 rfl ?_
        refine gq_iadd (pc := 73) dX12_text_73 ?_
        refine gq_aload_n (pc := 74) dX12_text_74 rfl ?_
        refine gq_getr (pc := 75) dX12_text_75 fl_X12_7_12 sh_76 rfl ?_
        refine gq_iconst (pc := 78) dX12_text_78 kc_4 ?_
        refine qm_ald (pc := 79) dX12_text_79 kl_4 (by first | decide | omega) ?_
        refine gq_tov (v := r 4) (show r 4 = p_txk r u 50 4 from (if_neg (by omega)).symm) ?_
        refine qm_ast (pc := 80) dX12_text_80 (ge_nadd kl_6 hv) (by omega) ?_
        refine gq_sub [0, 1, 2] rfl ?_
        exact mid
      · exact absurd (by decide) h_33
    | succ m ih =>
      intro i hi
      refine gq_iload_n (pc := 30) dX12_text_30 rfl ?_
      refine gq_bipush (pc := 31) dX12_text_31 kb_50 ?_
      refine gq_ic_ge (pc := 33) 66 dX12_text_33 (by decide) (fun h_33 => ?_) (fun h_33 => ?_)
      · exact absurd ((nI_leI (a := 50) (b := i) (by omega) (by omega)).mp h_33) (by omega)
      · refine gq_aload_n (pc := 36) dX12_text_36 rfl ?_
        refine gq_getr (pc := 37) dX12_text_37 fl_X12_7_12 sh_76 rfl ?_
        refine gq_sipush (pc := 40) dX12_text_40 kq_144 ?_
        refine gq_bipush (pc := 43) dX12_text_43 kb_50 ?_
        refine gq_iload_n (pc := 45) dX12_text_45 rfl ?_
        refine gq_imul (pc := 46) dX12_text_46 ?_
        refine gq_iadd (pc := 47) dX12_text_47 ?_
        refine gq_iload_n (pc := 48) dX12_text_48 rfl ?_
        refine gq_iadd (pc := 49) dX12_text_49 ?_
        refine gq_aload_n (pc := 50) dX12_text_50 rfl ?_
        refine gq_getr (pc := 51) dX12_text_51 fl_X12_7_12 sh_76 rfl ?_
        refine gq_bipush (pc := 54) dX12_text_54 kb_74 ?_
        refine gq_iload_n (pc := 56) dX12_text_56 rfl ?_
        refine gq_iadd (pc := 57) dX12_text_57 ?_
        refine qm_ald (pc := 58) dX12_text_58 (ge_nadd kl_74 rfl) (by omega) ?_
        refine qm_ast (pc := 59) dX12_text_59 (ge_nadd (ge_nadd kl_144 (ge_nmul kl_50 hv)) rfl) (by omega) ?_
        rw [p_txk_s (by omega)]
        refine gq_iinc (pc := 60) (l' := [(2, _), (0, _), (1, _)]) dX12_text_60 rfl (ge_inc1 i) (by decide) rfl ?_
        refine gq_goto (pc := 63) 30 dX12_text_63 (by decide) ?_
        refine gq_sub [0, 1, 2] rfl ?_
        exact ih (i + 1) (by omega)
  refine gq_iload_n (pc := 0) dX12_text_0 rfl ?_
  refine gq_iconst (pc := 1) dX12_text_1 kc_0 ?_
  refine gq_iconst (pc := 2) dX12_text_2 kc_1 ?_
  refine gq_rS3i (pc := 3) dX12_text_3 cs_X12_41 (k_in _ _ _) ⟨by decide, by decide⟩ (Nat.le_of_ble_eq_true rfl) ?_
  refine gq_if_ne (pc := 6) 16 dX12_text_6 (by decide) (fun h_6 => ?_) (fun h_6 => ?_)
  · refine gq_aload_n (pc := 16) dX12_text_16 rfl ?_
    refine gq_aload_n (pc := 17) dX12_text_17 rfl ?_
    refine gq_getr (pc := 18) dX12_text_18 fl_X12_7_12 sh_76 rfl ?_
    refine gq_aload_n (pc := 21) dX12_text_21 rfl ?_
    refine gq_getr (pc := 22) dX12_text_22 fl_X12_19_12 sh_76 rfl ?_
    refine gq_rV2v (pc := 25) dX12_text_25 cv_X12_170 sh_76 (k_move_to sh_80 (by decide) (by decide)) ⟨by decide, by decide⟩ rfl rfl (Nat.le_of_ble_eq_true rfl) ?_
    refine gq_iconst (pc := 28) dX12_text_28 kc_0 ?_
    refine gq_istore_n (pc := 29) (l' := [(2, _), (0, _), (1, _)]) dX12_text_29 (by decide) rfl ?_
    refine gq_sub [0, 1, 2] rfl ?_
    refine gq_tog (g := ge_m (ge_row g 80 r) (p_txk r u 0) f) (by rw [show p_txk r u 0 = r from by funext i; exact if_neg (by omega)]) ?_
    exact key 50 0 (by omega)
  · exact absurd h_6 (p_in_le (N := 1) hv (by omega) (by decide))
end X3
