section T4
variable {X : ge_X} {g : ge_G} {r x hb r2 x2 hb2 f : Nat → Int32} {c V : Nat}
set_option maxHeartbeats 1000000 in
theorem c_cdiv {a b : Nat} (ha : a ≤ 8) (hb : b ≤ 8) (hb0 : 0 < b) : ge_N X ge_SH YX11_commonDivisor 0 [.int (nI a), .int (nI b)] g (some (.int (nI (Nat.gcd a b)))) g := by
  refine gq_ofB (l := [(0, .int (nI a)), (1, .int (nI b))]) (by decide) (Nat.le_of_ble_eq_true rfl) rfl ?_
  have key : ∀ (e : Nat), e ≤ b → p_cdf a b e = Nat.gcd a b → ge_B X ge_SH YX11_commonDivisor 0 (fun v2 g2 => v2 = some (.int (nI (Nat.gcd a b))) ∧ g2 = g) 2 [(2, .int (nI e)), (0, .int (nI a)), (1, .int (nI b))] [] g := by
    intro e
    induction e with
    | zero =>
      intro he hR
      have hR : 1 = Nat.gcd a b := hR
      refine gq_iload_n (pc := 2) dX11_commonDivisor_2 rfl ?_
      refine gq_iconst (pc := 3) dX11_commonDivisor_3 kc_1 ?_
      refine gq_ic_le (pc := 4) 27 dX11_commonDivisor_4 (by decide) (fun h_4 => ?_) (fun h_4 => ?_)
      · refine gq_iconst (pc := 27) dX11_commonDivisor_27 kc_1 ?_
        exact gq_iret (pc := 28) rfl dX11_commonDivisor_28 ⟨by rw [← hR]; rfl, rfl⟩
      · exact absurd (by decide) h_4
    | succ e ih =>
      intro he hR
      have ea : nI a - nI a / nI (e + 1) * nI (e + 1) = nI (a % (e + 1)) := pk_rem (by omega) (by omega) (by omega)
      have eb : nI b - nI b / nI (e + 1) * nI (e + 1) = nI (b % (e + 1)) := pk_rem (by omega) (by omega) (by omega)
      have la : a % (e + 1) < e + 1 := Nat.mod_lt _ (by omega)
      have lb : b % (e + 1) < e + 1 := Nat.mod_lt _ (by omega)
      refine gq_iload_n (pc := 2) dX11_commonDivisor_2 rfl ?_
      refine gq_iconst (pc := 3) dX11_commonDivisor_3 kc_1 ?_
      refine gq_ic_le (pc := 4) 27 dX11_commonDivisor_4 (by decide) (fun h_4 => ?_) (fun h_4 => ?_)
      · have q0 : e + 1 ≤ 1 := (nI_leI (by omega) (by omega)).mp h_4
        have hR2 : p_cdf a b (e + 1) = 1 := by { show (if 0 < e ∧ _ then _ else p_cdf a b e) = 1; rw [if_neg (by omega), show e = 0 by omega]; rfl }
        rw [hR2] at hR
        refine gq_iconst (pc := 27) dX11_commonDivisor_27 kc_1 ?_
        exact gq_iret (pc := 28) rfl dX11_commonDivisor_28 ⟨by rw [← hR]; rfl, rfl⟩
      · refine gq_iload_n (pc := 7) dX11_commonDivisor_7 rfl ?_
        refine gq_iload_n (pc := 8) dX11_commonDivisor_8 rfl ?_
        refine gq_irem (pc := 9) dX11_commonDivisor_9 (nI_ne0 (by omega) (by omega)) ea ?_
        refine gq_if_ne (pc := 10) 21 dX11_commonDivisor_10 (by decide) (fun h_10 => ?_) (fun h_10 => ?_)
        · refine gq_iinc (pc := 21) (l' := [(2, _), (0, _), (1, _)]) dX11_commonDivisor_21 rfl (show nI (e + 1) + Int32.ofInt (-1) = nI e from pk_m1 e) (by decide) rfl ?_
          refine gq_goto (pc := 24) 2 dX11_commonDivisor_24 (by decide) ?_
          refine gq_sub [0, 1, 2] rfl ?_
          exact ih (by omega) (by rw [← hR]; exact (if_neg (fun z => h_10 (by rw [z.2.1]; rfl))).symm)
        · refine gq_iload_n (pc := 13) dX11_commonDivisor_13 rfl ?_
          refine gq_iload_n (pc := 14) dX11_commonDivisor_14 rfl ?_
          refine gq_irem (pc := 15) dX11_commonDivisor_15 (nI_ne0 (by omega) (by omega)) eb ?_
          refine gq_if_ne (pc := 16) 21 dX11_commonDivisor_16 (by decide) (fun h_16 => ?_) (fun h_16 => ?_)
          · refine gq_iinc (pc := 21) (l' := [(2, _), (0, _), (1, _)]) dX11_commonDivisor_21 rfl (show nI (e + 1) + Int32.ofInt (-1) = nI e from pk_m1 e) (by decide) rfl ?_
            refine gq_goto (pc := 24) 2 dX11_commonDivisor_24 (by decide) ?_
            refine gq_sub [0, 1, 2] rfl ?_
            exact ih (by omega) (by rw [← hR]; exact (if_neg (fun z => h_16 (by rw [z.2.2]; rfl))).symm)
          · refine gq_iload_n (pc := 19) dX11_commonDivisor_19 rfl ?_
            exact gq_iret (pc := 20) rfl dX11_commonDivisor_20 ⟨by rw [← hR]; exact congrArg (fun q => some (Value.int (nI q))) (if_pos ⟨Nat.lt_of_not_le (fun z => h_4 ((nI_leI (b := 1) (by omega) (by omega)).mpr (by omega))), (nI_eq (b := 0) (by omega) (by omega)).mp h_10, (nI_eq (b := 0) (by omega) (by omega)).mp h_16⟩).symm, rfl⟩
  refine gq_iload_n (pc := 0) dX11_commonDivisor_0 rfl ?_
  refine gq_istore_n (pc := 1) (l' := [(2, _), (0, _), (1, _)]) dX11_commonDivisor_1 (by decide) rfl ?_
  refine gq_sub [0, 1, 2] rfl ?_
  exact key b (Nat.le_refl _) (p_cdf_gcd a ha b hb hb0)
def p_ab (r : Nat → Int32) (w n : Nat) (e : Nat) : Int32 := p_o (p_hrs (p_alone r w e) n) w 3
theorem p_gcd0 {a b : Nat} (hb : b ≤ 8) (hb0 : 0 < b) : ¬ nI (Nat.gcd a b) = 0 := nI_ne0 (Nat.gcd_pos_of_pos_right a hb0) (by have := Nat.gcd_le_right a hb0; omega)
set_option maxHeartbeats 1000000 in
theorem c_odds_ok0 {w t n : Int32} {i k N E : Nat} (h : p_ok g (c + N) V r) (hw : w = nI i) (hi : i < V) (ht : t = nI k) (hk : k ≤ 9) (hN : n = nI N) (hN2 : N ≤ 60) (hE : E ≤ 8) (e2 : r 2 = nI E) (hE0 : 0 < E) : ge_N X ge_SH YX11_odds 6 [.ref (ge_ad X.1 0), .int w, .int t, .int n, .int 0] (ge_k g 25 r x hb) (some (.int (nI (p_os (p_ab r i N) t E) / nI (Nat.gcd (p_os (p_ab r i N) t E) E)))) (ge_k (ge_ts g (p_alone r i) V N E) 25 r x hb) := by
  have hV := h.2.2.1
  have e3 := h.2.1
  refine gq_ofB (l := [(0, .ref (ge_ad X.1 0)), (1, .int w), (2, .int t), (3, .int n), (4, .int 0)]) (by decide) (Nat.le_of_ble_eq_true rfl) rfl ?_
  have key : ∀ (m i1 : Nat), i1 + m = E → ge_B X ge_SH YX11_odds 6 (fun v2 g2 => v2 = (some (.int (nI (p_os (p_ab r i N) t E) / nI (Nat.gcd (p_os (p_ab r i N) t E) E)))) ∧ g2 = (ge_k (ge_ts g (p_alone r i) V N E) 25 r x hb)) 63 [(6, .int (nI i1)), (5, .int (nI (p_os (p_ab r i N) t i1))), (0, .ref (ge_ad X.1 0)), (1, .int w), (2, .int t), (3, .int n), (4, .int 0)] [] (ge_k (ge_ts g (p_alone r i) V N i1) 25 r x hb) := by
    intro m
    induction m with
    | zero =>
      intro i1 hi1
      obtain rfl : i1 = E := hi1
      refine gq_iload (pc := 63) dX11_odds_63 rfl ?_
      refine gq_aload_n (pc := 65) dX11_odds_65 rfl ?_
      refine gq_getr (pc := 66) dX11_odds_66 fl_X11_60_11 sh_0 rfl ?_
      refine kq_get11 (pw := 25) (pc := 69) (by decide) dX11_odds_69 fl_X11_119_10 ?_
      rw [e2]
      refine gq_ic_ge (pc := 72) 128 dX11_odds_72 (by decide) (fun h_72 => ?_) (fun h_72 => ?_)
      · refine gq_iload (pc := 128) dX11_odds_128 rfl ?_
        refine gq_aload_n (pc := 130) dX11_odds_130 rfl ?_
        refine gq_getr (pc := 131) dX11_odds_131 fl_X11_60_11 sh_0 rfl ?_
        refine kq_get11 (pw := 25) (pc := 134) (by decide) dX11_odds_134 fl_X11_119_10 ?_
        rw [e2]
        refine gq_rS2i (pc := 137) dX11_odds_137 cs_X11_275 (c_cdiv (Nat.le_trans (p_os_le _ _ _) hE) hE hE0) ⟨by decide, by decide⟩ (Nat.le_of_ble_eq_true rfl) ?_
        refine gq_istore (pc := 140) (l' := [(6, _), (5, _), (0, _), (1, _), (2, _), (3, _), (4, _)]) dX11_odds_140 (by decide) rfl ?_
        refine gq_iload (pc := 142) dX11_odds_142 rfl ?_
        refine gq_if_ne (pc := 144) 152 dX11_odds_144 (by decide) (fun h_144 => ?_) (fun h_144 => ?_)
        · exact absurd h_144 (by decide)
        · refine gq_iload (pc := 147) dX11_odds_147 rfl ?_
          refine gq_goto (pc := 149) 159 dX11_odds_149 (by decide) ?_
          refine gq_iload (pc := 159) dX11_odds_159 rfl ?_
          refine gq_idiv (pc := 161) dX11_odds_161 (p_gcd0 hE hE0) ?_
          exact gq_iret (pc := 162) rfl dX11_odds_162 ⟨rfl, rfl⟩
      · exact absurd (Int32.le_refl _) h_72
    | succ m ih =>
      intro i1 hi1
      have hr : p_ok (ge_ts g (p_alone r i) V N i1) (c + N) V r := p_ok_o (fun q hq => ge_ts_o (by omega) i1) h
      refine gq_iload (pc := 63) dX11_odds_63 rfl ?_
      refine gq_aload_n (pc := 65) dX11_odds_65 rfl ?_
      refine gq_getr (pc := 66) dX11_odds_66 fl_X11_60_11 sh_0 rfl ?_
      refine kq_get11 (pw := 25) (pc := 69) (by decide) dX11_odds_69 fl_X11_119_10 ?_
      rw [e2]
      refine gq_ic_ge (pc := 72) 128 dX11_odds_72 (by decide) (fun h_72 => ?_) (fun h_72 => ?_)
      · exact absurd ((nI_leI (a := E) (b := i1) (by omega) (by omega)).mp h_72) (by omega)
      · refine gq_aload_n (pc := 75) dX11_odds_75 rfl ?_
        refine gq_getr (pc := 76) dX11_odds_76 fl_X11_64_11 sh_0 rfl ?_
        refine gq_aload_n (pc := 79) dX11_odds_79 rfl ?_
        refine gq_getr (pc := 80) dX11_odds_80 fl_X11_60_11 sh_0 rfl ?_
        refine gq_rV1v (pc := 83) dX11_odds_83 cv_X11_223 sh_35 c_cp ⟨by decide, by decide⟩ rfl rfl (Nat.le_of_ble_eq_true rfl) ?_
        refine gq_aload_n (pc := 86) dX11_odds_86 rfl ?_
        refine gq_getr (pc := 87) dX11_odds_87 fl_X11_64_11 sh_0 rfl ?_
        refine gq_iload_n (pc := 90) dX11_odds_90 rfl ?_
        refine gq_iload (pc := 91) dX11_odds_91 rfl ?_
        refine gq_rV2v (pc := 93) dX11_odds_93 cv_X11_271 sh_35 (c_fitA hr hw hi (by omega)) ⟨by decide, by decide⟩ rfl rfl (Nat.le_of_ble_eq_true rfl) ?_
        refine gq_aload_n (pc := 96) dX11_odds_96 rfl ?_
        refine gq_getr (pc := 97) dX11_odds_97 fl_X11_64_11 sh_0 rfl ?_
        refine gq_iload_n (pc := 100) dX11_odds_100 rfl ?_
        refine gq_rV1v (pc := 101) dX11_odds_101 cv_X11_214 sh_35 (c_th (c := c) (V := V) hN (by omega) (p_ok_alone hr e2 hE hi (by omega)) rfl) ⟨by decide, by decide⟩ rfl rfl (Nat.le_of_ble_eq_true rfl) ?_
        refine gq_iload (pc := 104) dX11_odds_104 rfl ?_
        refine gq_aload_n (pc := 106) dX11_odds_106 rfl ?_
        refine gq_getr (pc := 107) dX11_odds_107 fl_X11_64_11 sh_0 rfl ?_
        refine gq_getr (pc := 110) dX11_odds_110 fl_X11_170_10 sh_35 rfl ?_
        refine gq_iload_n (pc := 113) dX11_odds_113 rfl ?_
        refine kt_ald8 (pc := 114) dX11_odds_114 hw (by omega) ?_
        refine gq_iload_n (pc := 115) dX11_odds_115 rfl ?_
        refine gq_ishr (pc := 116) dX11_odds_116 ?_
        refine gq_iconst (pc := 117) dX11_odds_117 kc_1 ?_
        refine gq_iand (pc := 118) dX11_odds_118 ?_
        rw [(p_ob_in _ t).1]
        refine gq_iadd (pc := 119) dX11_odds_119 ?_
        rw [nI_add]
        refine gq_istore (pc := 120) (l' := [(5, _), (6, _), (0, _), (1, _), (2, _), (3, _), (4, _)]) dX11_odds_120 (by decide) rfl ?_
        refine gq_iinc (pc := 122) (l' := [(6, _), (5, _), (0, _), (1, _), (2, _), (3, _), (4, _)]) dX11_odds_122 rfl (ge_inc1 i1) (by decide) rfl ?_
        refine gq_goto (pc := 125) 63 dX11_odds_125 (by decide) ?_
        refine gq_sub [0, 1, 2, 3, 4, 5, 6] rfl ?_
        exact ih (i1 + 1) (by omega)
  refine gq_aload_n (pc := 0) dX11_odds_0 rfl ?_
  refine gq_iload_n (pc := 1) dX11_odds_1 rfl ?_
  refine gq_rV1i (pc := 2) dX11_odds_2 cv_X11_157 sh_0 (c_noWearer _) ⟨by decide, by decide⟩ rfl rfl (Nat.le_of_ble_eq_true rfl) ?_
  refine gq_if_ne (pc := 5) 35 dX11_odds_5 (by decide) (fun h_5 => ?_) (fun h_5 => ?_)
  · exact absurd (p_nt_0.mpr (p_in_E hw hi (by omega) e3)) h_5
  · refine gq_iload_n (pc := 8) dX11_odds_8 rfl ?_
    refine gq_rS1i (pc := 9) dX11_odds_9 cs_X11_101 (c_noThing _) ⟨by decide, by decide⟩ (Nat.le_of_ble_eq_true rfl) ?_
    refine gq_if_ne (pc := 12) 35 dX11_odds_12 (by decide) (fun h_12 => ?_) (fun h_12 => ?_)
    · exact absurd (p_nt_0.mpr (p_in_le (N := 9) ht hk (by decide))) h_12
    · refine gq_iload_n (pc := 15) dX11_odds_15 rfl ?_
      refine gq_iconst (pc := 16) dX11_odds_16 kc_0 ?_
      refine gq_bipush (pc := 17) dX11_odds_17 kb_60 ?_
      refine gq_rS3i (pc := 19) dX11_odds_19 cs_X11_105 (c_outside _ _ _) ⟨by decide, by decide⟩ (Nat.le_of_ble_eq_true rfl) ?_
      refine gq_if_ne (pc := 22) 35 dX11_odds_22 (by decide) (fun h_22 => ?_) (fun h_22 => ?_)
      · exact absurd (p_nt_0.mpr (p_in_le (N := 60) hN hN2 (by decide))) h_22
      · refine gq_iload (pc := 25) dX11_odds_25 rfl ?_
        refine gq_iconst (pc := 27) dX11_odds_27 kc_0 ?_
        refine gq_iconst (pc := 28) dX11_odds_28 kc_1 ?_
        refine gq_rS3i (pc := 29) dX11_odds_29 cs_X11_105 (c_outside _ _ _) ⟨by decide, by decide⟩ (Nat.le_of_ble_eq_true rfl) ?_
        refine gq_if_eq (pc := 32) 41 dX11_odds_32 (by decide) (fun h_32 => ?_) (fun h_32 => ?_)
        · refine gq_aload_n (pc := 41) dX11_odds_41 rfl ?_
          refine gq_getr (pc := 42) dX11_odds_42 fl_X11_60_11 sh_0 rfl ?_
          refine kq_get11 (pw := 25) (pc := 45) (by decide) dX11_odds_45 fl_X11_119_10 ?_
          refine gq_if_ne (pc := 48) 57 dX11_odds_48 (by decide) (fun h_48 => ?_) (fun h_48 => ?_)
          · refine gq_iconst (pc := 57) dX11_odds_57 kc_0 ?_
            refine gq_istore (pc := 58) (l' := [(5, _), (0, _), (1, _), (2, _), (3, _), (4, _)]) dX11_odds_58 (by decide) rfl ?_
            refine gq_iconst (pc := 60) dX11_odds_60 kc_0 ?_
            refine gq_istore (pc := 61) (l' := [(6, _), (5, _), (0, _), (1, _), (2, _), (3, _), (4, _)]) dX11_odds_61 (by decide) rfl ?_
            refine gq_sub [0, 1, 2, 3, 4, 5, 6] rfl ?_
            exact key E 0 (by omega)
          · exact absurd h_48 (by rw [e2]; exact nI_ne0 hE0 (by omega))
        · exact absurd (by decide) h_32
set_option maxHeartbeats 1000000 in
theorem m_odds_ok0 {w t n : Int32} {i k N E : Nat} (h : p_ok g (c + N) V r) (hw : w = nI i) (hi : i < V) (ht : t = nI k) (hk : k ≤ 9) (hN : n = nI N) (hN2 : N ≤ 60) (hE : E ≤ 8) (e2 : r 2 = nI E) (hE0 : 0 < E) : ge_N X ge_SH YX12_odds 45 [.ref (ge_ad X.1 76), .int w, .int t, .int n, .int 0] (ge_m g r f) (some (.int (nI (p_os (p_ab r i N) t E) / nI (Nat.gcd (p_os (p_ab r i N) t E) E)))) (ge_m (ge_row g 79 r) r (p_fs f (p_alone r i) N E)) := by
  have hV := h.2.2.1
  have e3 := h.2.1
  refine gq_ofB (l := [(0, .ref (ge_ad X.1 76)), (1, .int w), (2, .int t), (3, .int n), (4, .int 0)]) (by decide) (Nat.le_of_ble_eq_true rfl) rfl ?_
  have key : ∀ (m i1 : Nat), i1 + m = E → ge_B X ge_SH YX12_odds 45 (fun v2 g2 => v2 = (some (.int (nI (p_os (p_ab r i N) t E) / nI (Nat.gcd (p_os (p_ab r i N) t E) E)))) ∧ g2 = (ge_m (ge_row g 79 r) r (p_fs f (p_alone r i) N E))) 80 [(7, .int (nI i1)), (6, .int (nI (p_os (p_ab r i N) t i1))), (5, .int (nI E)), (0, .ref (ge_ad X.1 76)), (1, .int w), (2, .int t), (3, .int n), (4, .int 0)] [] (ge_m (ge_row g 79 r) r (p_fs f (p_alone r i) N i1)) := by
    intro m
    induction m with
    | zero =>
      intro i1 hi1
      obtain rfl : i1 = E := hi1
      refine gq_iload (pc := 80) dX12_odds_80 rfl ?_
      refine gq_iload (pc := 82) dX12_odds_82 rfl ?_
      refine gq_ic_ge (pc := 84) 141 dX12_odds_84 (by decide) (fun h_84 => ?_) (fun h_84 => ?_)
      · refine gq_iload (pc := 141) dX12_odds_141 rfl ?_
        refine gq_iload (pc := 143) dX12_odds_143 rfl ?_
        refine gq_rS2i (pc := 145) dX12_odds_145 cs_X12_222 (k_divisor rfl rfl (Nat.lt_of_le_of_lt (Nat.le_trans (p_os_le _ _ _) hE) (by decide)) (by omega)) ⟨by decide, by decide⟩ (Nat.le_of_ble_eq_true rfl) ?_
        refine gq_istore (pc := 148) (l' := [(7, _), (6, _), (5, _), (0, _), (1, _), (2, _), (3, _), (4, _)]) dX12_odds_148 (by decide) rfl ?_
        refine gq_iload (pc := 150) dX12_odds_150 rfl ?_
        refine gq_if_ne (pc := 152) 163 dX12_odds_152 (by decide) (fun h_152 => ?_) (fun h_152 => ?_)
        · exact absurd h_152 (by decide)
        · refine gq_iload (pc := 155) dX12_odds_155 rfl ?_
          refine gq_iload (pc := 157) dX12_odds_157 rfl ?_
          refine gq_idiv (pc := 159) dX12_odds_159 (p_gcd0 hE hE0) ?_
          refine gq_goto (pc := 160) 168 dX12_odds_160 (by decide) ?_
          exact gq_iret (pc := 168) rfl dX12_odds_168 ⟨rfl, rfl⟩
      · exact absurd (Int32.le_refl _) h_84
    | succ m ih =>
      intro i1 hi1
      have ho := (p_ok_alone h e2 hE hi (show i1 < E by omega)).1
      have e3b : p_come r i 1 (-1) 3 = nI V := by unfold p_come; rw [if_pos (by decide), p_lo_uo _ _ _ _ 3 (by omega)]; exact e3
      refine gq_iload (pc := 80) dX12_odds_80 rfl ?_
      refine gq_iload (pc := 82) dX12_odds_82 rfl ?_
      refine gq_ic_ge (pc := 84) 141 dX12_odds_84 (by decide) (fun h_84 => ?_) (fun h_84 => ?_)
      · exact absurd ((nI_leI (a := E) (b := i1) (by omega) (by omega)).mp h_84) (by omega)
      · refine gq_aload_n (pc := 87) dX12_odds_87 rfl ?_
        refine gq_iload_n (pc := 88) dX12_odds_88 rfl ?_
        refine gq_iconst (pc := 89) dX12_odds_89 kc_1 ?_
        refine gq_iconst (pc := 90) dX12_odds_90 kc_m1 ?_
        refine gq_rV3v (pc := 91) dX12_odds_91 cv_X12_90 sh_76 (k_comes hV e3 hw kl_1 (by omega) (by omega)) ⟨by decide, by decide⟩ rfl rfl (Nat.le_of_ble_eq_true rfl) ?_
        refine gq_aload_n (pc := 94) dX12_odds_94 rfl ?_
        refine gq_iload_n (pc := 95) dX12_odds_95 rfl ?_
        refine gq_iconst (pc := 96) dX12_odds_96 kc_0 ?_
        refine gq_iload (pc := 97) dX12_odds_97 rfl ?_
        refine gq_rV3v (pc := 99) dX12_odds_99 cv_X12_90 sh_76 (k_comes hV e3b hw kl_0 (by omega) (by omega)) ⟨by decide, by decide⟩ rfl rfl (Nat.le_of_ble_eq_true rfl) ?_
        refine gq_tog (g := ge_m (ge_row g 79 r) (p_alone r i i1) (p_fs f (p_alone r i) N i1)) (by rw [← p_alone_m (by omega)]) ?_
        refine gq_aload_n (pc := 102) dX12_odds_102 rfl ?_
        refine gq_iload_n (pc := 103) dX12_odds_103 rfl ?_
        refine gq_rV1i (pc := 104) dX12_odds_104 cv_X12_195 sh_76 (k_passes (c := c) hN (by omega) ho) ⟨by decide, by decide⟩ rfl rfl (Nat.le_of_ble_eq_true rfl) ?_
        refine gq_pop (pc := 107) dX12_odds_107 rfl ?_
        refine gq_iload (pc := 108) dX12_odds_108 rfl ?_
        refine gq_aload_n (pc := 110) dX12_odds_110 rfl ?_
        refine gq_iload_n (pc := 111) dX12_odds_111 rfl ?_
        refine gq_iconst (pc := 112) dX12_odds_112 kc_3 ?_
        refine gq_rV2i (pc := 113) dX12_odds_113 cv_X12_63 sh_76 (k_ones hw kl_3 (by omega)) ⟨by decide, by decide⟩ rfl rfl (Nat.le_of_ble_eq_true rfl) ?_
        refine gq_iload_n (pc := 116) dX12_odds_116 rfl ?_
        refine gq_ishr (pc := 117) dX12_odds_117 ?_
        refine gq_iconst (pc := 118) dX12_odds_118 kc_1 ?_
        refine gq_iand (pc := 119) dX12_odds_119 ?_
        rw [(p_ob_in _ t).1]
        refine gq_iadd (pc := 120) dX12_odds_120 ?_
        rw [nI_add]
        refine gq_istore (pc := 121) (l' := [(6, _), (7, _), (5, _), (0, _), (1, _), (2, _), (3, _), (4, _)]) dX12_odds_121 (by decide) rfl ?_
        refine gq_aload_n (pc := 123) dX12_odds_123 rfl ?_
        refine gq_aload_n (pc := 124) dX12_odds_124 rfl ?_
        refine gq_getr (pc := 125) dX12_odds_125 fl_X12_16_12 sh_76 rfl ?_
        refine gq_aload_n (pc := 128) dX12_odds_128 rfl ?_
        refine gq_getr (pc := 129) dX12_odds_129 fl_X12_7_12 sh_76 rfl ?_
        refine gq_rV2v (pc := 132) dX12_odds_132 cv_X12_170 sh_76 (k_move_back sh_79 (by decide) (by decide) (by decide)) ⟨by decide, by decide⟩ rfl rfl (Nat.le_of_ble_eq_true rfl) ?_
        refine gq_tog (g := ge_m (ge_row g 79 r) r (p_fs f (p_alone r i) N (i1 + 1))) (by rw [ge_row_self]; rfl) ?_
        refine gq_iinc (pc := 135) (l' := [(7, _), (6, _), (5, _), (0, _), (1, _), (2, _), (3, _), (4, _)]) dX12_odds_135 rfl (ge_inc1 i1) (by decide) rfl ?_
        refine gq_goto (pc := 138) 80 dX12_odds_138 (by decide) ?_
        refine gq_sub [0, 1, 2, 3, 4, 5, 6, 7] rfl ?_
        exact ih (i1 + 1) (by omega)
  refine gq_aload_n (pc := 0) dX12_odds_0 rfl ?_
  refine gq_iload_n (pc := 1) dX12_odds_1 rfl ?_
  refine gq_rV1i (pc := 2) dX12_odds_2 cv_X12_84 sh_76 (k_isWearer _) ⟨by decide, by decide⟩ rfl rfl (Nat.le_of_ble_eq_true rfl) ?_
  refine gq_if_eq (pc := 5) 35 dX12_odds_5 (by decide) (fun h_5 => ?_) (fun h_5 => ?_)
  · exact absurd h_5 (p_in_E hw hi (by omega) e3)
  · refine gq_iload_n (pc := 8) dX12_odds_8 rfl ?_
    refine gq_rS1i (pc := 9) dX12_odds_9 cs_X12_45 (k_isThing _) ⟨by decide, by decide⟩ (Nat.le_of_ble_eq_true rfl) ?_
    refine gq_if_eq (pc := 12) 35 dX12_odds_12 (by decide) (fun h_12 => ?_) (fun h_12 => ?_)
    · exact absurd h_12 (p_in_le (N := 9) ht hk (by decide))
    · refine gq_iload_n (pc := 15) dX12_odds_15 rfl ?_
      refine gq_iconst (pc := 16) dX12_odds_16 kc_0 ?_
      refine gq_bipush (pc := 17) dX12_odds_17 kb_60 ?_
      refine gq_rS3i (pc := 19) dX12_odds_19 cs_X12_41 (k_in _ _ _) ⟨by decide, by decide⟩ (Nat.le_of_ble_eq_true rfl) ?_
      refine gq_if_eq (pc := 22) 35 dX12_odds_22 (by decide) (fun h_22 => ?_) (fun h_22 => ?_)
      · exact absurd h_22 (p_in_le (N := 60) hN hN2 (by decide))
      · refine gq_iload (pc := 25) dX12_odds_25 rfl ?_
        refine gq_iconst (pc := 27) dX12_odds_27 kc_0 ?_
        refine gq_iconst (pc := 28) dX12_odds_28 kc_1 ?_
        refine gq_rS3i (pc := 29) dX12_odds_29 cs_X12_41 (k_in _ _ _) ⟨by decide, by decide⟩ (Nat.le_of_ble_eq_true rfl) ?_
        refine gq_if_ne (pc := 32) 42 dX12_odds_32 (by decide) (fun h_32 => ?_) (fun h_32 => ?_)
        · refine gq_aload_n (pc := 42) dX12_odds_42 rfl ?_
          refine gq_getr (pc := 43) dX12_odds_43 fl_X12_7_12 sh_76 rfl ?_
          refine gq_iconst (pc := 46) dX12_odds_46 kc_2 ?_
          refine qm_ald (pc := 47) dX12_odds_47 kl_2 (by first | decide | omega) ?_
          refine gq_istore (pc := 48) (l' := [(5, _), (0, _), (1, _), (2, _), (3, _), (4, _)]) dX12_odds_48 (by decide) rfl ?_
          refine gq_iload (pc := 50) dX12_odds_50 rfl ?_
          refine gq_if_ne (pc := 52) 62 dX12_odds_52 (by decide) (fun h_52 => ?_) (fun h_52 => ?_)
          · refine gq_iconst (pc := 62) dX12_odds_62 kc_0 ?_
            refine gq_istore (pc := 63) (l' := [(6, _), (5, _), (0, _), (1, _), (2, _), (3, _), (4, _)]) dX12_odds_63 (by decide) rfl ?_
            refine gq_aload_n (pc := 65) dX12_odds_65 rfl ?_
            refine gq_aload_n (pc := 66) dX12_odds_66 rfl ?_
            refine gq_getr (pc := 67) dX12_odds_67 fl_X12_7_12 sh_76 rfl ?_
            refine gq_aload_n (pc := 70) dX12_odds_70 rfl ?_
            refine gq_getr (pc := 71) dX12_odds_71 fl_X12_16_12 sh_76 rfl ?_
            refine gq_rV2v (pc := 74) dX12_odds_74 cv_X12_170 sh_76 (k_move_to sh_79 (by decide) (by decide)) ⟨by decide, by decide⟩ rfl rfl (Nat.le_of_ble_eq_true rfl) ?_
            refine gq_iconst (pc := 77) dX12_odds_77 kc_0 ?_
            refine gq_istore (pc := 78) (l' := [(7, _), (6, _), (5, _), (0, _), (1, _), (2, _), (3, _), (4, _)]) dX12_odds_78 (by decide) rfl ?_
            refine gq_sub [0, 1, 2, 3, 4, 5, 6, 7] rfl ?_
            rw [e2]
            exact key E 0 (by omega)
          · exact absurd h_52 (by rw [e2]; exact nI_ne0 hE0 (by omega))
        · exact absurd h_32 (by decide)
set_option maxHeartbeats 1000000 in
theorem c_odds_ok1 {w t n : Int32} {i k N E : Nat} (h : p_ok g (c + N) V r) (hw : w = nI i) (hi : i < V) (ht : t = nI k) (hk : k ≤ 9) (hN : n = nI N) (hN2 : N ≤ 60) (hE : E ≤ 8) (e2 : r 2 = nI E) (hE0 : 0 < E) : ge_N X ge_SH YX11_odds 6 [.ref (ge_ad X.1 0), .int w, .int t, .int n, .int 1] (ge_k g 25 r x hb) (some (.int (nI E / nI (Nat.gcd (p_os (p_ab r i N) t E) E)))) (ge_k (ge_ts g (p_alone r i) V N E) 25 r x hb) := by
  have hV := h.2.2.1
  have e3 := h.2.1
  refine gq_ofB (l := [(0, .ref (ge_ad X.1 0)), (1, .int w), (2, .int t), (3, .int n), (4, .int 1)]) (by decide) (Nat.le_of_ble_eq_true rfl) rfl ?_
  have key : ∀ (m i1 : Nat), i1 + m = E → ge_B X ge_SH YX11_odds 6 (fun v2 g2 => v2 = (some (.int (nI E / nI (Nat.gcd (p_os (p_ab r i N) t E) E)))) ∧ g2 = (ge_k (ge_ts g (p_alone r i) V N E) 25 r x hb)) 63 [(6, .int (nI i1)), (5, .int (nI (p_os (p_ab r i N) t i1))), (0, .ref (ge_ad X.1 0)), (1, .int w), (2, .int t), (3, .int n), (4, .int 1)] [] (ge_k (ge_ts g (p_alone r i) V N i1) 25 r x hb) := by
    intro m
    induction m with
    | zero =>
      intro i1 hi1
      obtain rfl : i1 = E := hi1
      refine gq_iload (pc := 63) dX11_odds_63 rfl ?_
      refine gq_aload_n (pc := 65) dX11_odds_65 rfl ?_
      refine gq_getr (pc := 66) dX11_odds_66 fl_X11_60_11 sh_0 rfl ?_
      refine kq_get11 (pw := 25) (pc := 69) (by decide) dX11_odds_69 fl_X11_119_10 ?_
      rw [e2]
      refine gq_ic_ge (pc := 72) 128 dX11_odds_72 (by decide) (fun h_72 => ?_) (fun h_72 => ?_)
      · refine gq_iload (pc := 128) dX11_odds_128 rfl ?_
        refine gq_aload_n (pc := 130) dX11_odds_130 rfl ?_
        refine gq_getr (pc := 131) dX11_odds_131 fl_X11_60_11 sh_0 rfl ?_
        refine kq_get11 (pw := 25) (pc := 134) (by decide) dX11_odds_134 fl_X11_119_10 ?_
        rw [e2]
        refine gq_rS2i (pc := 137) dX11_odds_137 cs_X11_275 (c_cdiv (Nat.le_trans (p_os_le _ _ _) hE) hE hE0) ⟨by decide, by decide⟩ (Nat.le_of_ble_eq_true rfl) ?_
        refine gq_istore (pc := 140) (l' := [(6, _), (5, _), (0, _), (1, _), (2, _), (3, _), (4, _)]) dX11_odds_140 (by decide) rfl ?_
        refine gq_iload (pc := 142) dX11_odds_142 rfl ?_
        refine gq_if_ne (pc := 144) 152 dX11_odds_144 (by decide) (fun h_144 => ?_) (fun h_144 => ?_)
        · refine gq_aload_n (pc := 152) dX11_odds_152 rfl ?_
          refine gq_getr (pc := 153) dX11_odds_153 fl_X11_60_11 sh_0 rfl ?_
          refine kq_get11 (pw := 25) (pc := 156) (by decide) dX11_odds_156 fl_X11_119_10 ?_
          rw [e2]
          refine gq_iload (pc := 159) dX11_odds_159 rfl ?_
          refine gq_idiv (pc := 161) dX11_odds_161 (p_gcd0 hE hE0) ?_
          exact gq_iret (pc := 162) rfl dX11_odds_162 ⟨rfl, rfl⟩
        · exact absurd h_144 (by decide)
      · exact absurd (Int32.le_refl _) h_72
    | succ m ih =>
      intro i1 hi1
      have hr : p_ok (ge_ts g (p_alone r i) V N i1) (c + N) V r := p_ok_o (fun q hq => ge_ts_o (by omega) i1) h
      refine gq_iload (pc := 63) dX11_odds_63 rfl ?_
      refine gq_aload_n (pc := 65) dX11_odds_65 rfl ?_
      refine gq_getr (pc := 66) dX11_odds_66 fl_X11_60_11 sh_0 rfl ?_
      refine kq_get11 (pw := 25) (pc := 69) (by decide) dX11_odds_69 fl_X11_119_10 ?_
      rw [e2]
      refine gq_ic_ge (pc := 72) 128 dX11_odds_72 (by decide) (fun h_72 => ?_) (fun h_72 => ?_)
      · exact absurd ((nI_leI (a := E) (b := i1) (by omega) (by omega)).mp h_72) (by omega)
      · refine gq_aload_n (pc := 75) dX11_odds_75 rfl ?_
        refine gq_getr (pc := 76) dX11_odds_76 fl_X11_64_11 sh_0 rfl ?_
        refine gq_aload_n (pc := 79) dX11_odds_79 rfl ?_
        refine gq_getr (pc := 80) dX11_odds_80 fl_X11_60_11 sh_0 rfl ?_
        refine gq_rV1v (pc := 83) dX11_odds_83 cv_X11_223 sh_35 c_cp ⟨by decide, by decide⟩ rfl rfl (Nat.le_of_ble_eq_true rfl) ?_
        refine gq_aload_n (pc := 86) dX11_odds_86 rfl ?_
        refine gq_getr (pc := 87) dX11_odds_87 fl_X11_64_11 sh_0 rfl ?_
        refine gq_iload_n (pc := 90) dX11_odds_90 rfl ?_
        refine gq_iload (pc := 91) dX11_odds_91 rfl ?_
        refine gq_rV2v (pc := 93) dX11_odds_93 cv_X11_271 sh_35 (c_fitA hr hw hi (by omega)) ⟨by decide, by decide⟩ rfl rfl (Nat.le_of_ble_eq_true rfl) ?_
        refine gq_aload_n (pc := 96) dX11_odds_96 rfl ?_
        refine gq_getr (pc := 97) dX11_odds_97 fl_X11_64_11 sh_0 rfl ?_
        refine gq_iload_n (pc := 100) dX11_odds_100 rfl ?_
        refine gq_rV1v (pc := 101) dX11_odds_101 cv_X11_214 sh_35 (c_th (c := c) (V := V) hN (by omega) (p_ok_alone hr e2 hE hi (by omega)) rfl) ⟨by decide, by decide⟩ rfl rfl (Nat.le_of_ble_eq_true rfl) ?_
        refine gq_iload (pc := 104) dX11_odds_104 rfl ?_
        refine gq_aload_n (pc := 106) dX11_odds_106 rfl ?_
        refine gq_getr (pc := 107) dX11_odds_107 fl_X11_64_11 sh_0 rfl ?_
        refine gq_getr (pc := 110) dX11_odds_110 fl_X11_170_10 sh_35 rfl ?_
        refine gq_iload_n (pc := 113) dX11_odds_113 rfl ?_
        refine kt_ald8 (pc := 114) dX11_odds_114 hw (by omega) ?_
        refine gq_iload_n (pc := 115) dX11_odds_115 rfl ?_
        refine gq_ishr (pc := 116) dX11_odds_116 ?_
        refine gq_iconst (pc := 117) dX11_odds_117 kc_1 ?_
        refine gq_iand (pc := 118) dX11_odds_118 ?_
        rw [(p_ob_in _ t).1]
        refine gq_iadd (pc := 119) dX11_odds_119 ?_
        rw [nI_add]
        refine gq_istore (pc := 120) (l' := [(5, _), (6, _), (0, _), (1, _), (2, _), (3, _), (4, _)]) dX11_odds_120 (by decide) rfl ?_
        refine gq_iinc (pc := 122) (l' := [(6, _), (5, _), (0, _), (1, _), (2, _), (3, _), (4, _)]) dX11_odds_122 rfl (ge_inc1 i1) (by decide) rfl ?_
        refine gq_goto (pc := 125) 63 dX11_odds_125 (by decide) ?_
        refine gq_sub [0, 1, 2, 3, 4, 5, 6] rfl ?_
        exact ih (i1 + 1) (by omega)
  refine gq_aload_n (pc := 0) dX11_odds_0 rfl ?_
  refine gq_iload_n (pc := 1) dX11_odds_1 rfl ?_
  refine gq_rV1i (pc := 2) dX11_odds_2 cv_X11_157 sh_0 (c_noWearer _) ⟨by decide, by decide⟩ rfl rfl (Nat.le_of_ble_eq_true rfl) ?_
  refine gq_if_ne (pc := 5) 35 dX11_odds_5 (by decide) (fun h_5 => ?_) (fun h_5 => ?_)
  · exact absurd (p_nt_0.mpr (p_in_E hw hi (by omega) e3)) h_5
  · refine gq_iload_n (pc := 8) dX11_odds_8 rfl ?_
    refine gq_rS1i (pc := 9) dX11_odds_9 cs_X11_101 (c_noThing _) ⟨by decide, by decide⟩ (Nat.le_of_ble_eq_true rfl) ?_
    refine gq_if_ne (pc := 12) 35 dX11_odds_12 (by decide) (fun h_12 => ?_) (fun h_12 => ?_)
    · exact absurd (p_nt_0.mpr (p_in_le (N := 9) ht hk (by decide))) h_12
    · refine gq_iload_n (pc := 15) dX11_odds_15 rfl ?_
      refine gq_iconst (pc := 16) dX11_odds_16 kc_0 ?_
      refine gq_bipush (pc := 17) dX11_odds_17 kb_60 ?_
      refine gq_rS3i (pc := 19) dX11_odds_19 cs_X11_105 (c_outside _ _ _) ⟨by decide, by decide⟩ (Nat.le_of_ble_eq_true rfl) ?_
      refine gq_if_ne (pc := 22) 35 dX11_odds_22 (by decide) (fun h_22 => ?_) (fun h_22 => ?_)
      · exact absurd (p_nt_0.mpr (p_in_le (N := 60) hN hN2 (by decide))) h_22
      · refine gq_iload (pc := 25) dX11_odds_25 rfl ?_
        refine gq_iconst (pc := 27) dX11_odds_27 kc_0 ?_
        refine gq_iconst (pc := 28) dX11_odds_28 kc_1 ?_
        refine gq_rS3i (pc := 29) dX11_odds_29 cs_X11_105 (c_outside _ _ _) ⟨by decide, by decide⟩ (Nat.le_of_ble_eq_true rfl) ?_
        refine gq_if_eq (pc := 32) 41 dX11_odds_32 (by decide) (fun h_32 => ?_) (fun h_32 => ?_)
        · refine gq_aload_n (pc := 41) dX11_odds_41 rfl ?_
          refine gq_getr (pc := 42) dX11_odds_42 fl_X11_60_11 sh_0 rfl ?_
          refine kq_get11 (pw := 25) (pc := 45) (by decide) dX11_odds_45 fl_X11_119_10 ?_
          refine gq_if_ne (pc := 48) 57 dX11_odds_48 (by decide) (fun h_48 => ?_) (fun h_48 => ?_)
          · refine gq_iconst (pc := 57) dX11_odds_57 kc_0 ?_
            refine gq_istore (pc := 58) (l' := [(5, _), (0, _), (1, _), (2, _), (3, _), (4, _)]) dX11_odds_58 (by decide) rfl ?_
            refine gq_iconst (pc := 60) dX11_odds_60 kc_0 ?_
            refine gq_istore (pc := 61) (l' := [(6, _), (5, _), (0, _), (1, _), (2, _), (3, _), (4, _)]) dX11_odds_61 (by decide) rfl ?_
            refine gq_sub [0, 1, 2, 3, 4, 5, 6] rfl ?_
            exact key E 0 (by omega)
          · exact absurd h_48 (by rw [e2]; exact nI_ne0 hE0 (by omega))
        · exact absurd (by decide) h_32
set_option maxHeartbeats 1000000 in
theorem m_odds_ok1 {w t n : Int32} {i k N E : Nat} (h : p_ok g (c + N) V r) (hw : w = nI i) (hi : i < V) (ht : t = nI k) (hk : k ≤ 9) (hN : n = nI N) (hN2 : N ≤ 60) (hE : E ≤ 8) (e2 : r 2 = nI E) (hE0 : 0 < E) : ge_N X ge_SH YX12_odds 45 [.ref (ge_ad X.1 76), .int w, .int t, .int n, .int 1] (ge_m g r f) (some (.int (nI E / nI (Nat.gcd (p_os (p_ab r i N) t E) E)))) (ge_m (ge_row g 79 r) r (p_fs f (p_alone r i) N E)) := by
  have hV := h.2.2.1
  have e3 := h.2.1
  refine gq_ofB (l := [(0, .ref (ge_ad X.1 76)), (1, .int w), (2, .int t), (3, .int n), (4, .int 1)]) (by decide) (Nat.le_of_ble_eq_true rfl) rfl ?_
  have key : ∀ (m i1 : Nat), i1 + m = E → ge_B X ge_SH YX12_odds 45 (fun v2 g2 => v2 = (some (.int (nI E / nI (Nat.gcd (p_os (p_ab r i N) t E) E)))) ∧ g2 = (ge_m (ge_row g 79 r) r (p_fs f (p_alone r i) N E))) 80 [(7, .int (nI i1)), (6, .int (nI (p_os (p_ab r i N) t i1))), (5, .int (nI E)), (0, .ref (ge_ad X.1 76)), (1, .int w), (2, .int t), (3, .int n), (4, .int 1)] [] (ge_m (ge_row g 79 r) r (p_fs f (p_alone r i) N i1)) := by
    intro m
    induction m with
    | zero =>
      intro i1 hi1
      obtain rfl : i1 = E := hi1
      refine gq_iload (pc := 80) dX12_odds_80 rfl ?_
      refine gq_iload (pc := 82) dX12_odds_82 rfl ?_
      refine gq_ic_ge (pc := 84) 141 dX12_odds_84 (by decide) (fun h_84 => ?_) (fun h_84 => ?_)
      · refine gq_iload (pc := 141) dX12_odds_141 rfl ?_
        refine gq_iload (pc := 143) dX12_odds_143 rfl ?_
        refine gq_rS2i (pc := 145) dX12_odds_145 cs_X12_222 (k_divisor rfl rfl (Nat.lt_of_le_of_lt (Nat.le_trans (p_os_le _ _ _) hE) (by decide)) (by omega)) ⟨by decide, by decide⟩ (Nat.le_of_ble_eq_true rfl) ?_
        refine gq_istore (pc := 148) (l' := [(7, _), (6, _), (5, _), (0, _), (1, _), (2, _), (3, _), (4, _)]) dX12_odds_148 (by decide) rfl ?_
        refine gq_iload (pc := 150) dX12_odds_150 rfl ?_
        refine gq_if_ne (pc := 152) 163 dX12_odds_152 (by decide) (fun h_152 => ?_) (fun h_152 => ?_)
        · refine gq_iload (pc := 163) dX12_odds_163 rfl ?_
          refine gq_iload (pc := 165) dX12_odds_165 rfl ?_
          refine gq_idiv (pc := 167) dX12_odds_167 (p_gcd0 hE hE0) ?_
          exact gq_iret (pc := 168) rfl dX12_odds_168 ⟨rfl, rfl⟩
        · exact absurd h_152 (by decide)
      · exact absurd (Int32.le_refl _) h_84
    | succ m ih =>
      intro i1 hi1
      have ho := (p_ok_alone h e2 hE hi (show i1 < E by omega)).1
      have e3b : p_come r i 1 (-1) 3 = nI V := by unfold p_come; rw [if_pos (by decide), p_lo_uo _ _ _ _ 3 (by omega)]; exact e3
      refine gq_iload (pc := 80) dX12_odds_80 rfl ?_
      refine gq_iload (pc := 82) dX12_odds_82 rfl ?_
      refine gq_ic_ge (pc := 84) 141 dX12_odds_84 (by decide) (fun h_84 => ?_) (fun h_84 => ?_)
      · exact absurd ((nI_leI (a := E) (b := i1) (by omega) (by omega)).mp h_84) (by omega)
      · refine gq_aload_n (pc := 87) dX12_odds_87 rfl ?_
        refine gq_iload_n (pc := 88) dX12_odds_88 rfl ?_
        refine gq_iconst (pc := 89) dX12_odds_89 kc_1 ?_
        refine gq_iconst (pc := 90) dX12_odds_90 kc_m1 ?_
        refine gq_rV3v (pc := 91) dX12_odds_91 cv_X12_90 sh_76 (k_comes hV e3 hw kl_1 (by omega) (by omega)) ⟨by decide, by decide⟩ rfl rfl (Nat.le_of_ble_eq_true rfl) ?_
        refine gq_aload_n (pc := 94) dX12_odds_94 rfl ?_
        refine gq_iload_n (pc := 95) dX12_odds_95 rfl ?_
        refine gq_iconst (pc := 96) dX12_odds_96 kc_0 ?_
        refine gq_iload (pc := 97) dX12_odds_97 rfl ?_
        refine gq_rV3v (pc := 99) dX12_odds_99 cv_X12_90 sh_76 (k_comes hV e3b hw kl_0 (by omega) (by omega)) ⟨by decide, by decide⟩ rfl rfl (Nat.le_of_ble_eq_true rfl) ?_
        refine gq_tog (g := ge_m (ge_row g 79 r) (p_alone r i i1) (p_fs f (p_alone r i) N i1)) (by rw [← p_alone_m (by omega)]) ?_
        refine gq_aload_n (pc := 102) dX12_odds_102 rfl ?_
        refine gq_iload_n (pc := 103) dX12_odds_103 rfl ?_
        refine gq_rV1i (pc := 104) dX12_odds_104 cv_X12_195 sh_76 (k_passes (c := c) hN (by omega) ho) ⟨by decide, by decide⟩ rfl rfl (Nat.le_of_ble_eq_true rfl) ?_
        refine gq_pop (pc := 107) dX12_odds_107 rfl ?_
        refine gq_iload (pc := 108) dX12_odds_108 rfl ?_
        refine gq_aload_n (pc := 110) dX12_odds_110 rfl ?_
        refine gq_iload_n (pc := 111) dX12_odds_111 rfl ?_
        refine gq_iconst (pc := 112) dX12_odds_112 kc_3 ?_
        refine gq_rV2i (pc := 113) dX12_odds_113 cv_X12_63 sh_76 (k_ones hw kl_3 (by omega)) ⟨by decide, by decide⟩ rfl rfl (Nat.le_of_ble_eq_true rfl) ?_
        refine gq_iload_n (pc := 116) dX12_odds_116 rfl ?_
        refine gq_ishr (pc := 117) dX12_odds_117 ?_
        refine gq_iconst (pc := 118) dX12_odds_118 kc_1 ?_
        refine gq_iand (pc := 119) dX12_odds_119 ?_
        rw [(p_ob_in _ t).1]
        refine gq_iadd (pc := 120) dX12_odds_120 ?_
        rw [nI_add]
        refine gq_istore (pc := 121) (l' := [(6, _), (7, _), (5, _), (0, _), (1, _), (2, _), (3, _), (4, _)]) dX12_odds_121 (by decide) rfl ?_
        refine gq_aload_n (pc := 123) dX12_odds_123 rfl ?_
        refine gq_aload_n (pc := 124) dX12_odds_124 rfl ?_
        refine gq_getr (pc := 125) dX12_odds_125 fl_X12_16_12 sh_76 rfl ?_
        refine gq_aload_n (pc := 128) dX12_odds_128 rfl ?_
        refine gq_getr (pc := 129) dX12_odds_129 fl_X12_7_12 sh_76 rfl ?_
        refine gq_rV2v (pc := 132) dX12_odds_132 cv_X12_170 sh_76 (k_move_back sh_79 (by decide) (by decide) (by decide)) ⟨by decide, by decide⟩ rfl rfl (Nat.le_of_ble_eq_true rfl) ?_
        refine gq_tog (g := ge_m (ge_row g 79 r) r (p_fs f (p_alone r i) N (i1 + 1))) (by rw [ge_row_self]; rfl) ?_
        refine gq_iinc (pc := 135) (l' := [(7, _), (6, _), (5, _), (0, _), (1, _), (2, _), (3, _), (4, _)]) dX12_odds_135 rfl (ge_inc1 i1) (by decide) rfl ?_
        refine gq_goto (pc := 138) 80 dX12_odds_138 (by decide) ?_
        refine gq_sub [0, 1, 2, 3, 4, 5, 6, 7] rfl ?_
        exact ih (i1 + 1) (by omega)
  refine gq_aload_n (pc := 0) dX12_odds_0 rfl ?_
  refine gq_iload_n (pc := 1) dX12_odds_1 rfl ?_
  refine gq_rV1i (pc := 2) dX12_odds_2 cv_X12_84 sh_76 (k_isWearer _) ⟨by decide, by decide⟩ rfl rfl (Nat.le_of_ble_eq_true rfl) ?_
  refine gq_if_eq (pc := 5) 35 dX12_odds_5 (by decide) (fun h_5 => ?_) (fun h_5 => ?_)
  · exact absurd h_5 (p_in_E hw hi (by omega) e3)
  · refine gq_iload_n (pc := 8) dX12_odds_8 rfl ?_
    refine gq_rS1i (pc := 9) dX12_odds_9 cs_X12_45 (k_isThing _) ⟨by decide, by decide⟩ (Nat.le_of_ble_eq_true rfl) ?_
    refine gq_if_eq (pc := 12) 35 dX12_odds_12 (by decide) (fun h_12 => ?_) (fun h_12 => ?_)
    · exact absurd h_12 (p_in_le (N := 9) ht hk (by decide))
    · refine gq_iload_n (pc := 15) dX12_odds_15 rfl ?_
      refine gq_iconst (pc := 16) dX12_odds_16 kc_0 ?_
      refine gq_bipush (pc := 17) dX12_odds_17 kb_60 ?_
      refine gq_rS3i (pc := 19) dX12_odds_19 cs_X12_41 (k_in _ _ _) ⟨by decide, by decide⟩ (Nat.le_of_ble_eq_true rfl) ?_
      refine gq_if_eq (pc := 22) 35 dX12_odds_22 (by decide) (fun h_22 => ?_) (fun h_22 => ?_)
      · exact absurd h_22 (p_in_le (N := 60) hN hN2 (by decide))
      · refine gq_iload (pc := 25) dX12_odds_25 rfl ?_
        refine gq_iconst (pc := 27) dX12_odds_27 kc_0 ?_
        refine gq_iconst (pc := 28) dX12_odds_28 kc_1 ?_
        refine gq_rS3i (pc := 29) dX12_odds_29 cs_X12_41 (k_in _ _ _) ⟨by decide, by decide⟩ (Nat.le_of_ble_eq_true rfl) ?_
        refine gq_if_ne (pc := 32) 42 dX12_odds_32 (by decide) (fun h_32 => ?_) (fun h_32 => ?_)
        · refine gq_aload_n (pc := 42) dX12_odds_42 rfl ?_
          refine gq_getr (pc := 43) dX12_odds_43 fl_X12_7_12 sh_76 rfl ?_
          refine gq_iconst (pc := 46) dX12_odds_46 kc_2 ?_
          refine qm_ald (pc := 47) dX12_odds_47 kl_2 (by first | decide | omega) ?_
          refine gq_istore (pc := 48) (l' := [(5, _), (0, _), (1, _), (2, _), (3, _), (4, _)]) dX12_odds_48 (by decide) rfl ?_
          refine gq_iload (pc := 50) dX12_odds_50 rfl ?_
          refine gq_if_ne (pc := 52) 62 dX12_odds_52 (by decide) (fun h_52 => ?_) (fun h_52 => ?_)
          · refine gq_iconst (pc := 62) dX12_odds_62 kc_0 ?_
            refine gq_istore (pc := 63) (l' := [(6, _), (5, _), (0, _), (1, _), (2, _), (3, _), (4, _)]) dX12_odds_63 (by decide) rfl ?_
            refine gq_aload_n (pc := 65) dX12_odds_65 rfl ?_
            refine gq_aload_n (pc := 66) dX12_odds_66 rfl ?_
            refine gq_getr (pc := 67) dX12_odds_67 fl_X12_7_12 sh_76 rfl ?_
            refine gq_aload_n (pc := 70) dX12_odds_70 rfl ?_
            refine gq_getr (pc := 71) dX12_odds_71 fl_X12_16_12 sh_76 rfl ?_
            refine gq_rV2v (pc := 74) dX12_odds_74 cv_X12_170 sh_76 (k_move_to sh_79 (by decide) (by decide)) ⟨by decide, by decide⟩ rfl rfl (Nat.le_of_ble_eq_true rfl) ?_
            refine gq_iconst (pc := 77) dX12_odds_77 kc_0 ?_
            refine gq_istore (pc := 78) (l' := [(7, _), (6, _), (5, _), (0, _), (1, _), (2, _), (3, _), (4, _)]) dX12_odds_78 (by decide) rfl ?_
            refine gq_sub [0, 1, 2, 3, 4, 5, 6, 7] rfl ?_
            rw [e2]
            exact key E 0 (by omega)
          · exact absurd h_52 (by rw [e2]; exact nI_ne0 hE0 (by omega))
        · exact absurd h_32 (by decide)
set_option maxHeartbeats 400000 in
theorem c_odds_er {w s n a : Int32} (h : p_in w 0 (r 3 - 1) = 0 ∨ p_in s 0 9 = 0 ∨ p_in n 0 60 = 0 ∨ p_in a 0 1 = 0) : ge_N X ge_SH YX11_odds 6 [.ref (ge_ad X.1 0), .int w, .int s, .int n, .int a] (ge_k g 25 r x hb) (some (.int (-1000000000 - 1))) (ge_k (ge_up g 75 1 (g 75 1 + 1)) 25 r x hb) := by
  refine gq_ofB (l := [(0, .ref (ge_ad X.1 0)), (1, .int w), (2, .int s), (3, .int n), (4, .int a)]) (by decide) (Nat.le_of_ble_eq_true rfl) rfl ?_
  refine gq_aload_n (pc := 0) dX11_odds_0 rfl ?_
  refine gq_iload_n (pc := 1) dX11_odds_1 rfl ?_
  refine gq_rV1i (pc := 2) dX11_odds_2 cv_X11_157 sh_0 (c_noWearer _) ⟨by decide, by decide⟩ rfl rfl (Nat.le_of_ble_eq_true rfl) ?_
  refine gq_if_ne (pc := 5) 35 dX11_odds_5 (by decide) (fun h_5 => ?_) (fun h_5 => ?_)
  · refine gq_aload_n (pc := 35) dX11_odds_35 rfl ?_
    refine gq_iconst (pc := 36) dX11_odds_36 kc_1 ?_
    refine gq_rV1i (pc := 37) dX11_odds_37 cv_X11_109 sh_0 (c_error kl_1 (by decide)) ⟨by decide, by decide⟩ rfl rfl (Nat.le_of_ble_eq_true rfl) ?_
    exact gq_iret (pc := 40) rfl dX11_odds_40 ⟨rfl, rfl⟩
  · refine gq_iload_n (pc := 8) dX11_odds_8 rfl ?_
    refine gq_rS1i (pc := 9) dX11_odds_9 cs_X11_101 (c_noThing _) ⟨by decide, by decide⟩ (Nat.le_of_ble_eq_true rfl) ?_
    refine gq_if_ne (pc := 12) 35 dX11_odds_12 (by decide) (fun h_12 => ?_) (fun h_12 => ?_)
    · refine gq_aload_n (pc := 35) dX11_odds_35 rfl ?_
      refine gq_iconst (pc := 36) dX11_odds_36 kc_1 ?_
      refine gq_rV1i (pc := 37) dX11_odds_37 cv_X11_109 sh_0 (c_error kl_1 (by decide)) ⟨by decide, by decide⟩ rfl rfl (Nat.le_of_ble_eq_true rfl) ?_
      exact gq_iret (pc := 40) rfl dX11_odds_40 ⟨rfl, rfl⟩
    · refine gq_iload_n (pc := 15) dX11_odds_15 rfl ?_
      refine gq_iconst (pc := 16) dX11_odds_16 kc_0 ?_
      refine gq_bipush (pc := 17) dX11_odds_17 kb_60 ?_
      refine gq_rS3i (pc := 19) dX11_odds_19 cs_X11_105 (c_outside _ _ _) ⟨by decide, by decide⟩ (Nat.le_of_ble_eq_true rfl) ?_
      refine gq_if_ne (pc := 22) 35 dX11_odds_22 (by decide) (fun h_22 => ?_) (fun h_22 => ?_)
      · refine gq_aload_n (pc := 35) dX11_odds_35 rfl ?_
        refine gq_iconst (pc := 36) dX11_odds_36 kc_1 ?_
        refine gq_rV1i (pc := 37) dX11_odds_37 cv_X11_109 sh_0 (c_error kl_1 (by decide)) ⟨by decide, by decide⟩ rfl rfl (Nat.le_of_ble_eq_true rfl) ?_
        exact gq_iret (pc := 40) rfl dX11_odds_40 ⟨rfl, rfl⟩
      · refine gq_iload (pc := 25) dX11_odds_25 rfl ?_
        refine gq_iconst (pc := 27) dX11_odds_27 kc_0 ?_
        refine gq_iconst (pc := 28) dX11_odds_28 kc_1 ?_
        refine gq_rS3i (pc := 29) dX11_odds_29 cs_X11_105 (c_outside _ _ _) ⟨by decide, by decide⟩ (Nat.le_of_ble_eq_true rfl) ?_
        refine gq_if_eq (pc := 32) 41 dX11_odds_32 (by decide) (fun h_32 => ?_) (fun h_32 => ?_)
        · exact (h.elim (p_nt_0.mp h_5) (fun q => q.elim (p_nt_0.mp h_12) (fun q => q.elim (p_nt_0.mp h_22) (p_nt_0.mp h_32)))).elim
        · refine gq_aload_n (pc := 35) dX11_odds_35 rfl ?_
          refine gq_iconst (pc := 36) dX11_odds_36 kc_1 ?_
          refine gq_rV1i (pc := 37) dX11_odds_37 cv_X11_109 sh_0 (c_error kl_1 (by decide)) ⟨by decide, by decide⟩ rfl rfl (Nat.le_of_ble_eq_true rfl) ?_
          exact gq_iret (pc := 40) rfl dX11_odds_40 ⟨rfl, rfl⟩
set_option maxHeartbeats 400000 in
theorem m_odds_er {w s n a : Int32} (h : p_in w 0 (r 3 - 1) = 0 ∨ p_in s 0 9 = 0 ∨ p_in n 0 60 = 0 ∨ p_in a 0 1 = 0) : ge_N X ge_SH YX12_odds 45 [.ref (ge_ad X.1 76), .int w, .int s, .int n, .int a] (ge_m g r f) (some (.int (-1000000001))) (ge_m (ge_up g 81 1 (g 81 1 + 1)) r f) := by
  refine gq_ofB (l := [(0, .ref (ge_ad X.1 76)), (1, .int w), (2, .int s), (3, .int n), (4, .int a)]) (by decide) (Nat.le_of_ble_eq_true rfl) rfl ?_
  refine gq_aload_n (pc := 0) dX12_odds_0 rfl ?_
  refine gq_iload_n (pc := 1) dX12_odds_1 rfl ?_
  refine gq_rV1i (pc := 2) dX12_odds_2 cv_X12_84 sh_76 (k_isWearer _) ⟨by decide, by decide⟩ rfl rfl (Nat.le_of_ble_eq_true rfl) ?_
  refine gq_if_eq (pc := 5) 35 dX12_odds_5 (by decide) (fun h_5 => ?_) (fun h_5 => ?_)
  · refine gq_aload_n (pc := 35) dX12_odds_35 rfl ?_
    refine gq_ldc (pc := 36) dX12_odds_36 kn_X12_53 ?_
    refine gq_rV1i (pc := 38) dX12_odds_38 cv_X12_54 sh_76 (k_errs (j := 1) (by decide) (by decide)) ⟨by decide, by decide⟩ rfl rfl (Nat.le_of_ble_eq_true rfl) ?_
    exact gq_iret (pc := 41) rfl dX12_odds_41 ⟨rfl, rfl⟩
  · refine gq_iload_n (pc := 8) dX12_odds_8 rfl ?_
    refine gq_rS1i (pc := 9) dX12_odds_9 cs_X12_45 (k_isThing _) ⟨by decide, by decide⟩ (Nat.le_of_ble_eq_true rfl) ?_
    refine gq_if_eq (pc := 12) 35 dX12_odds_12 (by decide) (fun h_12 => ?_) (fun h_12 => ?_)
    · refine gq_aload_n (pc := 35) dX12_odds_35 rfl ?_
      refine gq_ldc (pc := 36) dX12_odds_36 kn_X12_53 ?_
      refine gq_rV1i (pc := 38) dX12_odds_38 cv_X12_54 sh_76 (k_errs (j := 1) (by decide) (by decide)) ⟨by decide, by decide⟩ rfl rfl (Nat.le_of_ble_eq_true rfl) ?_
      exact gq_iret (pc := 41) rfl dX12_odds_41 ⟨rfl, rfl⟩
    · refine gq_iload_n (pc := 15) dX12_odds_15 rfl ?_
      refine gq_iconst (pc := 16) dX12_odds_16 kc_0 ?_
      refine gq_bipush (pc := 17) dX12_odds_17 kb_60 ?_
      refine gq_rS3i (pc := 19) dX12_odds_19 cs_X12_41 (k_in _ _ _) ⟨by decide, by decide⟩ (Nat.le_of_ble_eq_true rfl) ?_
      refine gq_if_eq (pc := 22) 35 dX12_odds_22 (by decide) (fun h_22 => ?_) (fun h_22 => ?_)
      · refine gq_aload_n (pc := 35) dX12_odds_35 rfl ?_
        refine gq_ldc (pc := 36) dX12_odds_36 kn_X12_53 ?_
        refine gq_rV1i (pc := 38) dX12_odds_38 cv_X12_54 sh_76 (k_errs (j := 1) (by decide) (by decide)) ⟨by decide, by decide⟩ rfl rfl (Nat.le_of_ble_eq_true rfl) ?_
        exact gq_iret (pc := 41) rfl dX12_odds_41 ⟨rfl, rfl⟩
      · refine gq_iload (pc := 25) dX12_odds_25 rfl ?_
        refine gq_iconst (pc := 27) dX12_odds_27 kc_0 ?_
        refine gq_iconst (pc := 28) dX12_odds_28 kc_1 ?_
        refine gq_rS3i (pc := 29) dX12_odds_29 cs_X12_41 (k_in _ _ _) ⟨by decide, by decide⟩ (Nat.le_of_ble_eq_true rfl) ?_
        refine gq_if_ne (pc := 32) 42 dX12_odds_32 (by decide) (fun h_32 => ?_) (fun h_32 => ?_)
        · exact (h.elim h_5 (fun q => q.elim h_12 (fun q => q.elim h_22 h_32))).elim
        · refine gq_aload_n (pc := 35) dX12_odds_35 rfl ?_
          refine gq_ldc (pc := 36) dX12_odds_36 kn_X12_53 ?_
          refine gq_rV1i (pc := 38) dX12_odds_38 cv_X12_54 sh_76 (k_errs (j := 1) (by decide) (by decide)) ⟨by decide, by decide⟩ rfl rfl (Nat.le_of_ble_eq_true rfl) ?_
          exact gq_iret (pc := 41) rfl dX12_odds_41 ⟨rfl, rfl⟩
set_option maxHeartbeats 400000 in
theorem c_odds_no {w s n a : Int32} (h1 : ¬ p_in w 0 (r 3 - 1) = 0) (h2 : ¬ p_in s 0 9 = 0) (h3 : ¬ p_in n 0 60 = 0) (h4 : ¬ p_in a 0 1 = 0) (h5 : r 2 = 0) : ge_N X ge_SH YX11_odds 6 [.ref (ge_ad X.1 0), .int w, .int s, .int n, .int a] (ge_k g 25 r x hb) (some (.int (-1000000000 - 2))) (ge_k (ge_up g 75 2 (g 75 2 + 1)) 25 r x hb) := by
  refine gq_ofB (l := [(0, .ref (ge_ad X.1 0)), (1, .int w), (2, .int s), (3, .int n), (4, .int a)]) (by decide) (Nat.le_of_ble_eq_true rfl) rfl ?_
  refine gq_aload_n (pc := 0) dX11_odds_0 rfl ?_
  refine gq_iload_n (pc := 1) dX11_odds_1 rfl ?_
  refine gq_rV1i (pc := 2) dX11_odds_2 cv_X11_157 sh_0 (c_noWearer _) ⟨by decide, by decide⟩ rfl rfl (Nat.le_of_ble_eq_true rfl) ?_
  refine gq_if_ne (pc := 5) 35 dX11_odds_5 (by decide) (fun h_5 => ?_) (fun h_5 => ?_)
  · exact absurd (p_nt_0.mpr h1) h_5
  · refine gq_iload_n (pc := 8) dX11_odds_8 rfl ?_
    refine gq_rS1i (pc := 9) dX11_odds_9 cs_X11_101 (c_noThing _) ⟨by decide, by decide⟩ (Nat.le_of_ble_eq_true rfl) ?_
    refine gq_if_ne (pc := 12) 35 dX11_odds_12 (by decide) (fun h_12 => ?_) (fun h_12 => ?_)
    · exact absurd (p_nt_0.mpr h2) h_12
    · refine gq_iload_n (pc := 15) dX11_odds_15 rfl ?_
      refine gq_iconst (pc := 16) dX11_odds_16 kc_0 ?_
      refine gq_bipush (pc := 17) dX11_odds_17 kb_60 ?_
      refine gq_rS3i (pc := 19) dX11_odds_19 cs_X11_105 (c_outside _ _ _) ⟨by decide, by decide⟩ (Nat.le_of_ble_eq_true rfl) ?_
      refine gq_if_ne (pc := 22) 35 dX11_odds_22 (by decide) (fun h_22 => ?_) (fun h_22 => ?_)
      · exact absurd (p_nt_0.mpr h3) h_22
      · refine gq_iload (pc := 25) dX11_odds_25 rfl ?_
        refine gq_iconst (pc := 27) dX11_odds_27 kc_0 ?_
        refine gq_iconst (pc := 28) dX11_odds_28 kc_1 ?_
        refine gq_rS3i (pc := 29) dX11_odds_29 cs_X11_105 (c_outside _ _ _) ⟨by decide, by decide⟩ (Nat.le_of_ble_eq_true rfl) ?_
        refine gq_if_eq (pc := 32) 41 dX11_odds_32 (by decide) (fun h_32 => ?_) (fun h_32 => ?_)
        · refine gq_aload_n (pc := 41) dX11_odds_41 rfl ?_
          refine gq_getr (pc := 42) dX11_odds_42 fl_X11_60_11 sh_0 rfl ?_
          refine kq_get11 (pw := 25) (pc := 45) (by decide) dX11_odds_45 fl_X11_119_10 ?_
          refine gq_if_ne (pc := 48) 57 dX11_odds_48 (by decide) (fun h_48 => ?_) (fun h_48 => ?_)
          · exact absurd h5 h_48
          · refine gq_aload_n (pc := 51) dX11_odds_51 rfl ?_
            refine gq_iconst (pc := 52) dX11_odds_52 kc_2 ?_
            refine gq_rV1i (pc := 53) dX11_odds_53 cv_X11_109 sh_0 (c_error kl_2 (by decide)) ⟨by decide, by decide⟩ rfl rfl (Nat.le_of_ble_eq_true rfl) ?_
            exact gq_iret (pc := 56) rfl dX11_odds_56 ⟨rfl, rfl⟩
        · exact absurd (p_nt_0.mpr h4) h_32
set_option maxHeartbeats 400000 in
theorem m_odds_no {w s n a : Int32} (h1 : ¬ p_in w 0 (r 3 - 1) = 0) (h2 : ¬ p_in s 0 9 = 0) (h3 : ¬ p_in n 0 60 = 0) (h4 : ¬ p_in a 0 1 = 0) (h5 : r 2 = 0) : ge_N X ge_SH YX12_odds 45 [.ref (ge_ad X.1 76), .int w, .int s, .int n, .int a] (ge_m g r f) (some (.int (-1000000002))) (ge_m (ge_up g 81 2 (g 81 2 + 1)) r f) := by
  refine gq_ofB (l := [(0, .ref (ge_ad X.1 76)), (1, .int w), (2, .int s), (3, .int n), (4, .int a)]) (by decide) (Nat.le_of_ble_eq_true rfl) rfl ?_
  refine gq_aload_n (pc := 0) dX12_odds_0 rfl ?_
  refine gq_iload_n (pc := 1) dX12_odds_1 rfl ?_
  refine gq_rV1i (pc := 2) dX12_odds_2 cv_X12_84 sh_76 (k_isWearer _) ⟨by decide, by decide⟩ rfl rfl (Nat.le_of_ble_eq_true rfl) ?_
  refine gq_if_eq (pc := 5) 35 dX12_odds_5 (by decide) (fun h_5 => ?_) (fun h_5 => ?_)
  · exact absurd h_5 h1
  · refine gq_iload_n (pc := 8) dX12_odds_8 rfl ?_
    refine gq_rS1i (pc := 9) dX12_odds_9 cs_X12_45 (k_isThing _) ⟨by decide, by decide⟩ (Nat.le_of_ble_eq_true rfl) ?_
    refine gq_if_eq (pc := 12) 35 dX12_odds_12 (by decide) (fun h_12 => ?_) (fun h_12 => ?_)
    · exact absurd h_12 h2
    · refine gq_iload_n (pc := 15) dX12_odds_15 rfl ?_
      refine gq_iconst (pc := 16) dX12_odds_16 kc_0 ?_
      refine gq_bipush (pc := 17) dX12_odds_17 kb_60 ?_
      refine gq_rS3i (pc := 19) dX12_odds_19 cs_X12_41 (k_in _ _ _) ⟨by decide, by decide⟩ (Nat.le_of_ble_eq_true rfl) ?_
      refine gq_if_eq (pc := 22) 35 dX12_odds_22 (by decide) (fun h_22 => ?_) (fun h_22 => ?_)
      · exact absurd h_22 h3
      · refine gq_iload (pc := 25) dX12_odds_25 rfl ?_
        refine gq_iconst (pc := 27) dX12_odds_27 kc_0 ?_
        refine gq_iconst (pc := 28) dX12_odds_28 kc_1 ?_
        refine gq_rS3i (pc := 29) dX12_odds_29 cs_X12_41 (k_in _ _ _) ⟨by decide, by decide⟩ (Nat.le_of_ble_eq_true rfl) ?_
        refine gq_if_ne (pc := 32) 42 dX12_odds_32 (by decide) (fun h_32 => ?_) (fun h_32 => ?_)
        · refine gq_aload_n (pc := 42) dX12_odds_42 rfl ?_
          refine gq_getr (pc := 43) dX12_odds_43 fl_X12_7_12 sh_76 rfl ?_
          refine gq_iconst (pc := 46) dX12_odds_46 kc_2 ?_
          refine qm_ald (pc := 47) dX12_odds_47 kl_2 (by first | decide | omega) ?_
          refine gq_istore (pc := 48) (l' := [(5, _), (0, _), (1, _), (2, _), (3, _), (4, _)]) dX12_odds_48 (by decide) rfl ?_
          refine gq_iload (pc := 50) dX12_odds_50 rfl ?_
          refine gq_if_ne (pc := 52) 62 dX12_odds_52 (by decide) (fun h_52 => ?_) (fun h_52 => ?_)
          · exact absurd h5 h_52
          · refine gq_aload_n (pc := 55) dX12_odds_55 rfl ?_
            refine gq_ldc (pc := 56) dX12_odds_56 kn_X12_202 ?_
            refine gq_rV1i (pc := 58) dX12_odds_58 cv_X12_54 sh_76 (k_errs (j := 2) (by decide) (by decide)) ⟨by decide, by decide⟩ rfl rfl (Nat.le_of_ble_eq_true rfl) ?_
            exact gq_iret (pc := 61) rfl dX12_odds_61 ⟨rfl, rfl⟩
        · exact absurd h_32 h4
end T4
