section T3
variable {X : ge_X} {g : ge_G} {r x hb r2 x2 hb2 f : Nat → Int32} {c V : Nat}
theorem c_fit {w s : Int32} {i k j : Nat} (h : p_ok g c V r2) (hw : w = nI i) (hi : i < V) (hs : s = nI k) (hk : k < 2) (hj : j < 8) : ge_N X ge_SH YX10_fit 2 [.ref (ge_ad X.1 35), .int w, .int s, .int (nI j)] (ge_k (ge_k g 35 r2 x2 hb2) 25 r x hb) (some (.int (p_o r2 i k))) (ge_k (ge_k g 35 (p_come r2 i k (nI j)) x2 hb2) 25 r x hb) := by
  have hV := h.2.2.1
  rw [← p_come_tf hV h.2.1 h.2.2.2.1 (Or.inr ⟨j, hj, rfl⟩)]
  exact ge_sw (k_fit_35 hV h.2.1 hw (by omega) hs hk)
theorem c_fitA {w : Int32} {i j : Nat} (h : p_ok g c V r2) (hw : w = nI i) (hi : i < V) (hj : j < 8) : ge_N X ge_SH YX10_fitAlone 3 [.ref (ge_ad X.1 35), .int w, .int (nI j)] (ge_k (ge_k g 35 r2 x2 hb2) 25 r x hb) none (ge_k (ge_k g 35 (p_alone r2 i j) x2 hb2) 25 r x hb) := by
  have hV := h.2.2.1
  unfold p_alone
  rw [← p_come_tf hV h.2.1 h.2.2.2.1 (Or.inr ⟨j, hj, rfl⟩)]
  exact ge_sw (k_fitA_35 hV h.2.1 hw (by omega))
/-- the reference's fields behind thoughts -/
def p_fs (f : Nat → Int32) (R : Nat → Nat → Int32) (n : Nat) : Nat → Nat → Int32
  | 0 => f
  | e + 1 => p_tb (p_fs f R n e) (p_pt (p_fs f R n e) (R e) n) (p_pb (p_fs f R n e) (R e) n)
theorem p_fs_o {R : Nat → Nat → Int32} {n k : Nat} (h : k ≠ 15 ∧ k ≠ 16) : ∀ e, p_fs f R n e k = f k := by
  intro e
  induction e with
  | zero => rfl
  | succ e ih =>
    show p_tb (p_fs f R n e) _ _ k = f k
    unfold p_tb
    rw [if_neg h.1, if_neg h.2, ih]
def p_er (r : Nat → Int32) (w s : Nat) (e : Nat) : Nat → Int32 := p_come r w s (nI e)
def p_eb (r : Nat → Int32) (w s n : Nat) (e : Nat) : Int32 := p_o (p_hrs (p_er r w s e) n) w 2
set_option maxHeartbeats 1000000 in
theorem c_eyeFor_ok0 {w s n : Int32} {i k N E : Nat} (h : p_ok g (c + N) V r) (hw : w = nI i) (hi : i < V) (hs : s = nI k) (hk : k ≤ 1) (hN : n = nI N) (hN2 : N ≤ 60) (hE : E ≤ 8) (e2 : r 2 = nI E) (hE0 : 0 < E) : ge_N X ge_SH YX11_eyeFor 6 [.ref (ge_ad X.1 0), .int w, .int s, .int n, .int 0] (ge_k g 25 r x hb) (some (.int (p_ef (p_eb r i k N) (-1) E).1)) (ge_k (ge_ts g (p_er r i k) V N E) 25 r x hb) := by
  have hV := h.2.2.1
  have e3 := h.2.1
  refine gq_ofB (l := [(0, .ref (ge_ad X.1 0)), (1, .int w), (2, .int s), (3, .int n), (4, .int 0)]) (by decide) (Nat.le_of_ble_eq_true rfl) rfl ?_
  have key : ∀ (m i1 : Nat), i1 + m = E → ge_B X ge_SH YX11_eyeFor 6 (fun v2 g2 => v2 = (some (.int (p_ef (p_eb r i k N) (-1) E).1)) ∧ g2 = (ge_k (ge_ts g (p_er r i k) V N E) 25 r x hb)) 66 [(7, .int (nI i1)), (6, .int (p_ef (p_eb r i k N) (-1) i1).2), (5, .int (p_ef (p_eb r i k N) (-1) i1).1), (0, .ref (ge_ad X.1 0)), (1, .int w), (2, .int s), (3, .int n), (4, .int 0)] [] (ge_k (ge_ts g (p_er r i k) V N i1) 25 r x hb) := by
    intro m
    induction m with
    | zero =>
      intro i1 hi1
      obtain rfl : i1 = E := hi1
      refine gq_iload (pc := 66) dX11_eyeFor_66 rfl ?_
      refine gq_aload_n (pc := 68) dX11_eyeFor_68 rfl ?_
      refine gq_getr (pc := 69) dX11_eyeFor_69 fl_X11_60_11 sh_0 rfl ?_
      refine kq_get11 (pw := 25) (pc := 72) (by decide) dX11_eyeFor_72 fl_X11_119_10 ?_
      rw [e2]
      refine gq_ic_ge (pc := 75) 144 dX11_eyeFor_75 (by decide) (fun h_75 => ?_) (fun h_75 => ?_)
      · refine gq_iload (pc := 144) dX11_eyeFor_144 rfl ?_
        refine gq_if_ne (pc := 146) 154 dX11_eyeFor_146 (by decide) (fun h_146 => ?_) (fun h_146 => ?_)
        · exact absurd h_146 (by decide)
        · refine gq_iload (pc := 149) dX11_eyeFor_149 rfl ?_
          refine gq_goto (pc := 151) 156 dX11_eyeFor_151 (by decide) ?_
          exact gq_iret (pc := 156) rfl dX11_eyeFor_156 ⟨rfl, rfl⟩
      · exact absurd (Int32.le_refl _) h_75
    | succ m ih =>
      intro i1 hi1
      have hr : p_ok (ge_ts g (p_er r i k) V N i1) (c + N) V r := p_ok_o (fun q hq => ge_ts_o (by omega) i1) h
      refine gq_iload (pc := 66) dX11_eyeFor_66 rfl ?_
      refine gq_aload_n (pc := 68) dX11_eyeFor_68 rfl ?_
      refine gq_getr (pc := 69) dX11_eyeFor_69 fl_X11_60_11 sh_0 rfl ?_
      refine kq_get11 (pw := 25) (pc := 72) (by decide) dX11_eyeFor_72 fl_X11_119_10 ?_
      rw [e2]
      refine gq_ic_ge (pc := 75) 144 dX11_eyeFor_75 (by decide) (fun h_75 => ?_) (fun h_75 => ?_)
      · exact absurd ((nI_leI (a := E) (b := i1) (by omega) (by omega)).mp h_75) (by omega)
      · refine gq_aload_n (pc := 78) dX11_eyeFor_78 rfl ?_
        refine gq_getr (pc := 79) dX11_eyeFor_79 fl_X11_64_11 sh_0 rfl ?_
        refine gq_aload_n (pc := 82) dX11_eyeFor_82 rfl ?_
        refine gq_getr (pc := 83) dX11_eyeFor_83 fl_X11_60_11 sh_0 rfl ?_
        refine gq_rV1v (pc := 86) dX11_eyeFor_86 cv_X11_223 sh_35 c_cp ⟨by decide, by decide⟩ rfl rfl (Nat.le_of_ble_eq_true rfl) ?_
        refine gq_aload_n (pc := 89) dX11_eyeFor_89 rfl ?_
        refine gq_getr (pc := 90) dX11_eyeFor_90 fl_X11_64_11 sh_0 rfl ?_
        refine gq_iload_n (pc := 93) dX11_eyeFor_93 rfl ?_
        refine gq_iload_n (pc := 94) dX11_eyeFor_94 rfl ?_
        refine gq_iload (pc := 95) dX11_eyeFor_95 rfl ?_
        refine gq_rV3i (pc := 97) dX11_eyeFor_97 cv_X11_176 sh_35 (c_fit hr hw hi hs (by omega) (by omega)) ⟨by decide, by decide⟩ rfl rfl (Nat.le_of_ble_eq_true rfl) ?_
        refine gq_pop (pc := 100) dX11_eyeFor_100 rfl ?_
        refine gq_aload_n (pc := 101) dX11_eyeFor_101 rfl ?_
        refine gq_getr (pc := 102) dX11_eyeFor_102 fl_X11_64_11 sh_0 rfl ?_
        refine gq_iload_n (pc := 105) dX11_eyeFor_105 rfl ?_
        refine gq_rV1v (pc := 106) dX11_eyeFor_106 cv_X11_214 sh_35 (c_th (c := c) (V := V) hN (by omega) (p_ok_come hr e2 hE hi (by omega) (by omega)) rfl) ⟨by decide, by decide⟩ rfl rfl (Nat.le_of_ble_eq_true rfl) ?_
        refine gq_aload_n (pc := 109) dX11_eyeFor_109 rfl ?_
        refine gq_getr (pc := 110) dX11_eyeFor_110 fl_X11_64_11 sh_0 rfl ?_
        refine gq_getr (pc := 113) dX11_eyeFor_113 fl_X11_167_10 sh_35 rfl ?_
        refine gq_iload_n (pc := 116) dX11_eyeFor_116 rfl ?_
        refine kt_ald7 (pc := 117) dX11_eyeFor_117 hw (by omega) ?_
        refine gq_iload (pc := 118) dX11_eyeFor_118 rfl ?_
        refine gq_ic_le (pc := 120) 138 dX11_eyeFor_120 (by decide) (fun h_120 => ?_) (fun h_120 => ?_)
        · refine gq_iinc (pc := 138) (l' := [(7, _), (6, _), (5, _), (0, _), (1, _), (2, _), (3, _), (4, _)]) dX11_eyeFor_138 rfl (ge_inc1 i1) (by decide) rfl ?_
          refine gq_goto (pc := 141) 66 dX11_eyeFor_141 (by decide) ?_
          have q := ih (i1 + 1) (by omega)
          rw [show p_ef (p_eb r i k N) (-1) (i1 + 1) = p_ef (p_eb r i k N) (-1) i1 from if_neg (Int32.not_lt.mpr h_120)] at q
          refine gq_sub [0, 1, 2, 3, 4, 5, 6, 7] rfl ?_
          exact q
        · refine gq_aload_n (pc := 123) dX11_eyeFor_123 rfl ?_
          refine gq_getr (pc := 124) dX11_eyeFor_124 fl_X11_64_11 sh_0 rfl ?_
          refine gq_getr (pc := 127) dX11_eyeFor_127 fl_X11_167_10 sh_35 rfl ?_
          refine gq_iload_n (pc := 130) dX11_eyeFor_130 rfl ?_
          refine kt_ald7 (pc := 131) dX11_eyeFor_131 hw (by omega) ?_
          refine gq_istore (pc := 132) (l' := [(6, _), (7, _), (5, _), (0, _), (1, _), (2, _), (3, _), (4, _)]) dX11_eyeFor_132 (by decide) rfl ?_
          refine gq_iload (pc := 134) dX11_eyeFor_134 rfl ?_
          refine gq_istore (pc := 136) (l' := [(5, _), (6, _), (7, _), (0, _), (1, _), (2, _), (3, _), (4, _)]) dX11_eyeFor_136 (by decide) rfl ?_
          refine gq_iinc (pc := 138) (l' := [(7, _), (5, _), (6, _), (0, _), (1, _), (2, _), (3, _), (4, _)]) dX11_eyeFor_138 rfl (ge_inc1 i1) (by decide) rfl ?_
          refine gq_goto (pc := 141) 66 dX11_eyeFor_141 (by decide) ?_
          have q := ih (i1 + 1) (by omega)
          rw [show p_ef (p_eb r i k N) (-1) (i1 + 1) = (nI i1, p_eb r i k N i1) from if_pos (Int32.not_le.mp h_120)] at q
          refine gq_sub [0, 2, 1, 3, 4, 5, 6, 7] rfl ?_
          exact q
  refine gq_aload_n (pc := 0) dX11_eyeFor_0 rfl ?_
  refine gq_iload_n (pc := 1) dX11_eyeFor_1 rfl ?_
  refine gq_rV1i (pc := 2) dX11_eyeFor_2 cv_X11_157 sh_0 (c_noWearer _) ⟨by decide, by decide⟩ rfl rfl (Nat.le_of_ble_eq_true rfl) ?_
  refine gq_if_ne (pc := 5) 35 dX11_eyeFor_5 (by decide) (fun h_5 => ?_) (fun h_5 => ?_)
  · exact absurd (p_nt_0.mpr (p_in_E hw hi (by omega) e3)) h_5
  · refine gq_iload_n (pc := 8) dX11_eyeFor_8 rfl ?_
    refine gq_rS1i (pc := 9) dX11_eyeFor_9 cs_X11_173 (c_noSide _) ⟨by decide, by decide⟩ (Nat.le_of_ble_eq_true rfl) ?_
    refine gq_if_ne (pc := 12) 35 dX11_eyeFor_12 (by decide) (fun h_12 => ?_) (fun h_12 => ?_)
    · exact absurd (p_nt_0.mpr (p_in_le (N := 1) hs hk (by decide))) h_12
    · refine gq_iload_n (pc := 15) dX11_eyeFor_15 rfl ?_
      refine gq_iconst (pc := 16) dX11_eyeFor_16 kc_0 ?_
      refine gq_bipush (pc := 17) dX11_eyeFor_17 kb_60 ?_
      refine gq_rS3i (pc := 19) dX11_eyeFor_19 cs_X11_105 (c_outside _ _ _) ⟨by decide, by decide⟩ (Nat.le_of_ble_eq_true rfl) ?_
      refine gq_if_ne (pc := 22) 35 dX11_eyeFor_22 (by decide) (fun h_22 => ?_) (fun h_22 => ?_)
      · exact absurd (p_nt_0.mpr (p_in_le (N := 60) hN hN2 (by decide))) h_22
      · refine gq_iload (pc := 25) dX11_eyeFor_25 rfl ?_
        refine gq_iconst (pc := 27) dX11_eyeFor_27 kc_0 ?_
        refine gq_iconst (pc := 28) dX11_eyeFor_28 kc_1 ?_
        refine gq_rS3i (pc := 29) dX11_eyeFor_29 cs_X11_105 (c_outside _ _ _) ⟨by decide, by decide⟩ (Nat.le_of_ble_eq_true rfl) ?_
        refine gq_if_eq (pc := 32) 41 dX11_eyeFor_32 (by decide) (fun h_32 => ?_) (fun h_32 => ?_)
        · refine gq_aload_n (pc := 41) dX11_eyeFor_41 rfl ?_
          refine gq_getr (pc := 42) dX11_eyeFor_42 fl_X11_60_11 sh_0 rfl ?_
          refine kq_get11 (pw := 25) (pc := 45) (by decide) dX11_eyeFor_45 fl_X11_119_10 ?_
          refine gq_if_ne (pc := 48) 57 dX11_eyeFor_48 (by decide) (fun h_48 => ?_) (fun h_48 => ?_)
          · refine gq_iconst (pc := 57) dX11_eyeFor_57 kc_m1 ?_
            refine gq_istore (pc := 58) (l' := [(5, _), (0, _), (1, _), (2, _), (3, _), (4, _)]) dX11_eyeFor_58 (by decide) rfl ?_
            refine gq_iconst (pc := 60) dX11_eyeFor_60 kc_m1 ?_
            refine gq_istore (pc := 61) (l' := [(6, _), (5, _), (0, _), (1, _), (2, _), (3, _), (4, _)]) dX11_eyeFor_61 (by decide) rfl ?_
            refine gq_iconst (pc := 63) dX11_eyeFor_63 kc_0 ?_
            refine gq_istore (pc := 64) (l' := [(7, _), (6, _), (5, _), (0, _), (1, _), (2, _), (3, _), (4, _)]) dX11_eyeFor_64 (by decide) rfl ?_
            refine gq_sub [0, 1, 2, 3, 4, 5, 6, 7] rfl ?_
            exact key E 0 (by omega)
          · exact absurd h_48 (by rw [e2]; exact nI_ne0 hE0 (by omega))
        · exact absurd (by decide) h_32
set_option maxHeartbeats 1000000 in
theorem m_eyeFor_ok0 {w s n : Int32} {i k N E : Nat} (h : p_ok g (c + N) V r) (hw : w = nI i) (hi : i < V) (hs : s = nI k) (hk : k ≤ 1) (hN : n = nI N) (hN2 : N ≤ 60) (hE : E ≤ 8) (e2 : r 2 = nI E) (hE0 : 0 < E) : ge_N X ge_SH YX12_eyeFor 45 [.ref (ge_ad X.1 76), .int w, .int s, .int n, .int 0] (ge_m g r f) (some (.int (p_ef (p_eb r i k N) 0 E).1)) (ge_m (ge_row g 79 r) r (p_fs f (p_er r i k) N E)) := by
  have hV := h.2.2.1
  have e3 := h.2.1
  refine gq_ofB (l := [(0, .ref (ge_ad X.1 76)), (1, .int w), (2, .int s), (3, .int n), (4, .int 0)]) (by decide) (Nat.le_of_ble_eq_true rfl) rfl ?_
  have key : ∀ (m i1 : Nat), i1 + m = E → ge_B X ge_SH YX12_eyeFor 45 (fun v2 g2 => v2 = (some (.int (p_ef (p_eb r i k N) 0 E).1)) ∧ g2 = (ge_m (ge_row g 79 r) r (p_fs f (p_er r i k) N E))) 81 [(7, .int (nI i1)), (6, .int (p_ef (p_eb r i k N) 0 i1).2), (5, .int (p_ef (p_eb r i k N) 0 i1).1), (0, .ref (ge_ad X.1 76)), (1, .int w), (2, .int s), (3, .int n), (4, .int 0)] [] (ge_m (ge_row g 79 r) r (p_fs f (p_er r i k) N i1)) := by
    intro m
    induction m with
    | zero =>
      intro i1 hi1
      obtain rfl : i1 = E := hi1
      refine gq_iload (pc := 81) dX12_eyeFor_81 rfl ?_
      refine gq_aload_n (pc := 83) dX12_eyeFor_83 rfl ?_
      refine gq_getr (pc := 84) dX12_eyeFor_84 fl_X12_16_12 sh_76 rfl ?_
      refine gq_iconst (pc := 87) dX12_eyeFor_87 kc_2 ?_
      refine qm_aldo (pc := 88) dX12_eyeFor_88 sh_79 (by decide) kl_2 (by first | decide | omega) (by decide) ?_
      rw [ge_row_self, e2]
      refine gq_ic_ge (pc := 89) 164 dX12_eyeFor_89 (by decide) (fun h_89 => ?_) (fun h_89 => ?_)
      · refine gq_iload (pc := 164) dX12_eyeFor_164 rfl ?_
        refine gq_if_ne (pc := 166) 174 dX12_eyeFor_166 (by decide) (fun h_166 => ?_) (fun h_166 => ?_)
        · exact absurd h_166 (by decide)
        · refine gq_iload (pc := 169) dX12_eyeFor_169 rfl ?_
          refine gq_goto (pc := 171) 176 dX12_eyeFor_171 (by decide) ?_
          exact gq_iret (pc := 176) rfl dX12_eyeFor_176 ⟨rfl, rfl⟩
      · exact absurd (Int32.le_refl _) h_89
    | succ m ih =>
      intro i1 hi1
      have ho := (p_ok_come h e2 hE hi (show k < 2 by omega) (show i1 < E by omega)).1
      refine gq_iload (pc := 81) dX12_eyeFor_81 rfl ?_
      refine gq_aload_n (pc := 83) dX12_eyeFor_83 rfl ?_
      refine gq_getr (pc := 84) dX12_eyeFor_84 fl_X12_16_12 sh_76 rfl ?_
      refine gq_iconst (pc := 87) dX12_eyeFor_87 kc_2 ?_
      refine qm_aldo (pc := 88) dX12_eyeFor_88 sh_79 (by decide) kl_2 (by first | decide | omega) (by decide) ?_
      rw [ge_row_self, e2]
      refine gq_ic_ge (pc := 89) 164 dX12_eyeFor_89 (by decide) (fun h_89 => ?_) (fun h_89 => ?_)
      · exact absurd ((nI_leI (a := E) (b := i1) (by omega) (by omega)).mp h_89) (by omega)
      · refine gq_aload_n (pc := 92) dX12_eyeFor_92 rfl ?_
        refine gq_iload_n (pc := 93) dX12_eyeFor_93 rfl ?_
        refine gq_iload_n (pc := 94) dX12_eyeFor_94 rfl ?_
        refine gq_iload (pc := 95) dX12_eyeFor_95 rfl ?_
        refine gq_rV3v (pc := 97) dX12_eyeFor_97 cv_X12_90 sh_76 (k_comes hV e3 hw hs (by omega) (by omega)) ⟨by decide, by decide⟩ rfl rfl (Nat.le_of_ble_eq_true rfl) ?_
        refine gq_aload_n (pc := 100) dX12_eyeFor_100 rfl ?_
        refine gq_iload_n (pc := 101) dX12_eyeFor_101 rfl ?_
        refine gq_rV1i (pc := 102) dX12_eyeFor_102 cv_X12_195 sh_76 (k_passes (c := c) hN (by omega) ho) ⟨by decide, by decide⟩ rfl rfl (Nat.le_of_ble_eq_true rfl) ?_
        refine gq_pop (pc := 105) dX12_eyeFor_105 rfl ?_
        refine gq_aload_n (pc := 106) dX12_eyeFor_106 rfl ?_
        refine gq_iload_n (pc := 107) dX12_eyeFor_107 rfl ?_
        refine gq_iconst (pc := 108) dX12_eyeFor_108 kc_2 ?_
        refine gq_rV2i (pc := 109) dX12_eyeFor_109 cv_X12_63 sh_76 (k_ones hw kl_2 (by omega)) ⟨by decide, by decide⟩ rfl rfl (Nat.le_of_ble_eq_true rfl) ?_
        refine gq_istore (pc := 112) (l' := [(8, _), (7, _), (6, _), (5, _), (0, _), (1, _), (2, _), (3, _), (4, _)]) dX12_eyeFor_112 (by decide) rfl ?_
        refine gq_aload_n (pc := 114) dX12_eyeFor_114 rfl ?_
        refine gq_aload_n (pc := 115) dX12_eyeFor_115 rfl ?_
        refine gq_getr (pc := 116) dX12_eyeFor_116 fl_X12_16_12 sh_76 rfl ?_
        refine gq_aload_n (pc := 119) dX12_eyeFor_119 rfl ?_
        refine gq_getr (pc := 120) dX12_eyeFor_120 fl_X12_7_12 sh_76 rfl ?_
        refine gq_rV2v (pc := 123) dX12_eyeFor_123 cv_X12_170 sh_76 (k_move_back sh_79 (by decide) (by decide) (by decide)) ⟨by decide, by decide⟩ rfl rfl (Nat.le_of_ble_eq_true rfl) ?_
        refine gq_tog (g := ge_m (ge_row g 79 r) r (p_fs f (p_er r i k) N (i1 + 1))) (by rw [ge_row_self]; rfl) ?_
        refine gq_iload (pc := 126) dX12_eyeFor_126 rfl ?_
        refine gq_iload (pc := 128) dX12_eyeFor_128 rfl ?_
        refine gq_ic_le (pc := 130) 138 dX12_eyeFor_130 (by decide) (fun h_130 => ?_) (fun h_130 => ?_)
        · refine gq_iload (pc := 138) dX12_eyeFor_138 rfl ?_
          refine gq_istore (pc := 140) (l' := [(5, _), (8, _), (7, _), (6, _), (0, _), (1, _), (2, _), (3, _), (4, _)]) dX12_eyeFor_140 (by decide) rfl ?_
          refine gq_iload (pc := 142) dX12_eyeFor_142 rfl ?_
          refine gq_iload (pc := 144) dX12_eyeFor_144 rfl ?_
          refine gq_ic_le (pc := 146) 154 dX12_eyeFor_146 (by decide) (fun h_146 => ?_) (fun h_146 => ?_)
          · refine gq_iload (pc := 154) dX12_eyeFor_154 rfl ?_
            refine gq_istore (pc := 156) (l' := [(6, _), (5, _), (8, _), (7, _), (0, _), (1, _), (2, _), (3, _), (4, _)]) dX12_eyeFor_156 (by decide) rfl ?_
            refine gq_iinc (pc := 158) (l' := [(7, _), (6, _), (5, _), (8, _), (0, _), (1, _), (2, _), (3, _), (4, _)]) dX12_eyeFor_158 rfl (ge_inc1 i1) (by decide) rfl ?_
            refine gq_goto (pc := 161) 81 dX12_eyeFor_161 (by decide) ?_
            have q := ih (i1 + 1) (by omega)
            rw [show p_ef (p_eb r i k N) 0 (i1 + 1) = p_ef (p_eb r i k N) 0 i1 from if_neg (Int32.not_lt.mpr h_130)] at q
            refine gq_sub [0, 1, 2, 4, 5, 6, 7, 8] rfl ?_
            exact q
          · exact absurd h_130 h_146
        · refine gq_iload (pc := 133) dX12_eyeFor_133 rfl ?_
          refine gq_goto (pc := 135) 140 dX12_eyeFor_135 (by decide) ?_
          refine gq_istore (pc := 140) (l' := [(5, _), (8, _), (7, _), (6, _), (0, _), (1, _), (2, _), (3, _), (4, _)]) dX12_eyeFor_140 (by decide) rfl ?_
          refine gq_iload (pc := 142) dX12_eyeFor_142 rfl ?_
          refine gq_iload (pc := 144) dX12_eyeFor_144 rfl ?_
          refine gq_ic_le (pc := 146) 154 dX12_eyeFor_146 (by decide) (fun h_146 => ?_) (fun h_146 => ?_)
          · exact absurd h_146 h_130
          · refine gq_iload (pc := 149) dX12_eyeFor_149 rfl ?_
            refine gq_goto (pc := 151) 156 dX12_eyeFor_151 (by decide) ?_
            refine gq_istore (pc := 156) (l' := [(6, _), (5, _), (8, _), (7, _), (0, _), (1, _), (2, _), (3, _), (4, _)]) dX12_eyeFor_156 (by decide) rfl ?_
            refine gq_iinc (pc := 158) (l' := [(7, _), (6, _), (5, _), (8, _), (0, _), (1, _), (2, _), (3, _), (4, _)]) dX12_eyeFor_158 rfl (ge_inc1 i1) (by decide) rfl ?_
            refine gq_goto (pc := 161) 81 dX12_eyeFor_161 (by decide) ?_
            have q := ih (i1 + 1) (by omega)
            rw [show p_ef (p_eb r i k N) 0 (i1 + 1) = (nI i1, p_eb r i k N i1) from if_pos (Int32.not_le.mp h_130)] at q
            refine gq_sub [0, 1, 2, 4, 5, 6, 7, 8] rfl ?_
            exact q
  refine gq_aload_n (pc := 0) dX12_eyeFor_0 rfl ?_
  refine gq_iload_n (pc := 1) dX12_eyeFor_1 rfl ?_
  refine gq_rV1i (pc := 2) dX12_eyeFor_2 cv_X12_84 sh_76 (k_isWearer _) ⟨by decide, by decide⟩ rfl rfl (Nat.le_of_ble_eq_true rfl) ?_
  refine gq_if_eq (pc := 5) 37 dX12_eyeFor_5 (by decide) (fun h_5 => ?_) (fun h_5 => ?_)
  · exact absurd h_5 (p_in_E hw hi (by omega) e3)
  · refine gq_iload_n (pc := 8) dX12_eyeFor_8 rfl ?_
    refine gq_iconst (pc := 9) dX12_eyeFor_9 kc_0 ?_
    refine gq_iconst (pc := 10) dX12_eyeFor_10 kc_1 ?_
    refine gq_rS3i (pc := 11) dX12_eyeFor_11 cs_X12_41 (k_in _ _ _) ⟨by decide, by decide⟩ (Nat.le_of_ble_eq_true rfl) ?_
    refine gq_if_eq (pc := 14) 37 dX12_eyeFor_14 (by decide) (fun h_14 => ?_) (fun h_14 => ?_)
    · exact absurd h_14 (p_in_le (N := 1) hs hk (by decide))
    · refine gq_iload_n (pc := 17) dX12_eyeFor_17 rfl ?_
      refine gq_iconst (pc := 18) dX12_eyeFor_18 kc_0 ?_
      refine gq_bipush (pc := 19) dX12_eyeFor_19 kb_60 ?_
      refine gq_rS3i (pc := 21) dX12_eyeFor_21 cs_X12_41 (k_in _ _ _) ⟨by decide, by decide⟩ (Nat.le_of_ble_eq_true rfl) ?_
      refine gq_if_eq (pc := 24) 37 dX12_eyeFor_24 (by decide) (fun h_24 => ?_) (fun h_24 => ?_)
      · exact absurd h_24 (p_in_le (N := 60) hN hN2 (by decide))
      · refine gq_iload (pc := 27) dX12_eyeFor_27 rfl ?_
        refine gq_iconst (pc := 29) dX12_eyeFor_29 kc_0 ?_
        refine gq_iconst (pc := 30) dX12_eyeFor_30 kc_1 ?_
        refine gq_rS3i (pc := 31) dX12_eyeFor_31 cs_X12_41 (k_in _ _ _) ⟨by decide, by decide⟩ (Nat.le_of_ble_eq_true rfl) ?_
        refine gq_if_ne (pc := 34) 44 dX12_eyeFor_34 (by decide) (fun h_34 => ?_) (fun h_34 => ?_)
        · refine gq_aload_n (pc := 44) dX12_eyeFor_44 rfl ?_
          refine gq_getr (pc := 45) dX12_eyeFor_45 fl_X12_7_12 sh_76 rfl ?_
          refine gq_iconst (pc := 48) dX12_eyeFor_48 kc_2 ?_
          refine qm_ald (pc := 49) dX12_eyeFor_49 kl_2 (by first | decide | omega) ?_
          refine gq_if_ne (pc := 50) 60 dX12_eyeFor_50 (by decide) (fun h_50 => ?_) (fun h_50 => ?_)
          · refine gq_iconst (pc := 60) dX12_eyeFor_60 kc_0 ?_
            refine gq_istore (pc := 61) (l' := [(5, _), (0, _), (1, _), (2, _), (3, _), (4, _)]) dX12_eyeFor_61 (by decide) rfl ?_
            refine gq_iconst (pc := 63) dX12_eyeFor_63 kc_m1 ?_
            refine gq_istore (pc := 64) (l' := [(6, _), (5, _), (0, _), (1, _), (2, _), (3, _), (4, _)]) dX12_eyeFor_64 (by decide) rfl ?_
            refine gq_aload_n (pc := 66) dX12_eyeFor_66 rfl ?_
            refine gq_aload_n (pc := 67) dX12_eyeFor_67 rfl ?_
            refine gq_getr (pc := 68) dX12_eyeFor_68 fl_X12_7_12 sh_76 rfl ?_
            refine gq_aload_n (pc := 71) dX12_eyeFor_71 rfl ?_
            refine gq_getr (pc := 72) dX12_eyeFor_72 fl_X12_16_12 sh_76 rfl ?_
            refine gq_rV2v (pc := 75) dX12_eyeFor_75 cv_X12_170 sh_76 (k_move_to sh_79 (by decide) (by decide)) ⟨by decide, by decide⟩ rfl rfl (Nat.le_of_ble_eq_true rfl) ?_
            refine gq_iconst (pc := 78) dX12_eyeFor_78 kc_0 ?_
            refine gq_istore (pc := 79) (l' := [(7, _), (6, _), (5, _), (0, _), (1, _), (2, _), (3, _), (4, _)]) dX12_eyeFor_79 (by decide) rfl ?_
            refine gq_sub [0, 1, 2, 3, 4, 5, 6, 7] rfl ?_
            exact key E 0 (by omega)
          · exact absurd h_50 (by rw [e2]; exact nI_ne0 hE0 (by omega))
        · exact absurd h_34 (by decide)
set_option maxHeartbeats 1000000 in
theorem c_eyeFor_ok1 {w s n : Int32} {i k N E : Nat} (h : p_ok g (c + N) V r) (hw : w = nI i) (hi : i < V) (hs : s = nI k) (hk : k ≤ 1) (hN : n = nI N) (hN2 : N ≤ 60) (hE : E ≤ 8) (e2 : r 2 = nI E) (hE0 : 0 < E) : ge_N X ge_SH YX11_eyeFor 6 [.ref (ge_ad X.1 0), .int w, .int s, .int n, .int 1] (ge_k g 25 r x hb) (some (.int (p_ef (p_eb r i k N) (-1) E).2)) (ge_k (ge_ts g (p_er r i k) V N E) 25 r x hb) := by
  have hV := h.2.2.1
  have e3 := h.2.1
  refine gq_ofB (l := [(0, .ref (ge_ad X.1 0)), (1, .int w), (2, .int s), (3, .int n), (4, .int 1)]) (by decide) (Nat.le_of_ble_eq_true rfl) rfl ?_
  have key : ∀ (m i1 : Nat), i1 + m = E → ge_B X ge_SH YX11_eyeFor 6 (fun v2 g2 => v2 = (some (.int (p_ef (p_eb r i k N) (-1) E).2)) ∧ g2 = (ge_k (ge_ts g (p_er r i k) V N E) 25 r x hb)) 66 [(7, .int (nI i1)), (6, .int (p_ef (p_eb r i k N) (-1) i1).2), (5, .int (p_ef (p_eb r i k N) (-1) i1).1), (0, .ref (ge_ad X.1 0)), (1, .int w), (2, .int s), (3, .int n), (4, .int 1)] [] (ge_k (ge_ts g (p_er r i k) V N i1) 25 r x hb) := by
    intro m
    induction m with
    | zero =>
      intro i1 hi1
      obtain rfl : i1 = E := hi1
      refine gq_iload (pc := 66) dX11_eyeFor_66 rfl ?_
      refine gq_aload_n (pc := 68) dX11_eyeFor_68 rfl ?_
      refine gq_getr (pc := 69) dX11_eyeFor_69 fl_X11_60_11 sh_0 rfl ?_
      refine kq_get11 (pw := 25) (pc := 72) (by decide) dX11_eyeFor_72 fl_X11_119_10 ?_
      rw [e2]
      refine gq_ic_ge (pc := 75) 144 dX11_eyeFor_75 (by decide) (fun h_75 => ?_) (fun h_75 => ?_)
      · refine gq_iload (pc := 144) dX11_eyeFor_144 rfl ?_
        refine gq_if_ne (pc := 146) 154 dX11_eyeFor_146 (by decide) (fun h_146 => ?_) (fun h_146 => ?_)
        · refine gq_iload (pc := 154) dX11_eyeFor_154 rfl ?_
          exact gq_iret (pc := 156) rfl dX11_eyeFor_156 ⟨rfl, rfl⟩
        · exact absurd h_146 (by decide)
      · exact absurd (Int32.le_refl _) h_75
    | succ m ih =>
      intro i1 hi1
      have hr : p_ok (ge_ts g (p_er r i k) V N i1) (c + N) V r := p_ok_o (fun q hq => ge_ts_o (by omega) i1) h
      refine gq_iload (pc := 66) dX11_eyeFor_66 rfl ?_
      refine gq_aload_n (pc := 68) dX11_eyeFor_68 rfl ?_
      refine gq_getr (pc := 69) dX11_eyeFor_69 fl_X11_60_11 sh_0 rfl ?_
      refine kq_get11 (pw := 25) (pc := 72) (by decide) dX11_eyeFor_72 fl_X11_119_10 ?_
      rw [e2]
      refine gq_ic_ge (pc := 75) 144 dX11_eyeFor_75 (by decide) (fun h_75 => ?_) (fun h_75 => ?_)
      · exact absurd ((nI_leI (a := E) (b := i1) (by omega) (by omega)).mp h_75) (by omega)
      · refine gq_aload_n (pc := 78) dX11_eyeFor_78 rfl ?_
        refine gq_getr (pc := 79) dX11_eyeFor_79 fl_X11_64_11 sh_0 rfl ?_
        refine gq_aload_n (pc := 82) dX11_eyeFor_82 rfl ?_
        refine gq_getr (pc := 83) dX11_eyeFor_83 fl_X11_60_11 sh_0 rfl ?_
        refine gq_rV1v (pc := 86) dX11_eyeFor_86 cv_X11_223 sh_35 c_cp ⟨by decide, by decide⟩ rfl rfl (Nat.le_of_ble_eq_true rfl) ?_
        refine gq_aload_n (pc := 89) dX11_eyeFor_89 rfl ?_
        refine gq_getr (pc := 90) dX11_eyeFor_90 fl_X11_64_11 sh_0 rfl ?_
        refine gq_iload_n (pc := 93) dX11_eyeFor_93 rfl ?_
        refine gq_iload_n (pc := 94) dX11_eyeFor_94 rfl ?_
        refine gq_iload (pc := 95) dX11_eyeFor_95 rfl ?_
        refine gq_rV3i (pc := 97) dX11_eyeFor_97 cv_X11_176 sh_35 (c_fit hr hw hi hs (by omega) (by omega)) ⟨by decide, by decide⟩ rfl rfl (Nat.le_of_ble_eq_true rfl) ?_
        refine gq_pop (pc := 100) dX11_eyeFor_100 rfl ?_
        refine gq_aload_n (pc := 101) dX11_eyeFor_101 rfl ?_
        refine gq_getr (pc := 102) dX11_eyeFor_102 fl_X11_64_11 sh_0 rfl ?_
        refine gq_iload_n (pc := 105) dX11_eyeFor_105 rfl ?_
        refine gq_rV1v (pc := 106) dX11_eyeFor_106 cv_X11_214 sh_35 (c_th (c := c) (V := V) hN (by omega) (p_ok_come hr e2 hE hi (by omega) (by omega)) rfl) ⟨by decide, by decide⟩ rfl rfl (Nat.le_of_ble_eq_true rfl) ?_
        refine gq_aload_n (pc := 109) dX11_eyeFor_109 rfl ?_
        refine gq_getr (pc := 110) dX11_eyeFor_110 fl_X11_64_11 sh_0 rfl ?_
        refine gq_getr (pc := 113) dX11_eyeFor_113 fl_X11_167_10 sh_35 rfl ?_
        refine gq_iload_n (pc := 116) dX11_eyeFor_116 rfl ?_
        refine kt_ald7 (pc := 117) dX11_eyeFor_117 hw (by omega) ?_
        refine gq_iload (pc := 118) dX11_eyeFor_118 rfl ?_
        refine gq_ic_le (pc := 120) 138 dX11_eyeFor_120 (by decide) (fun h_120 => ?_) (fun h_120 => ?_)
        · refine gq_iinc (pc := 138) (l' := [(7, _), (6, _), (5, _), (0, _), (1, _), (2, _), (3, _), (4, _)]) dX11_eyeFor_138 rfl (ge_inc1 i1) (by decide) rfl ?_
          refine gq_goto (pc := 141) 66 dX11_eyeFor_141 (by decide) ?_
          have q := ih (i1 + 1) (by omega)
          rw [show p_ef (p_eb r i k N) (-1) (i1 + 1) = p_ef (p_eb r i k N) (-1) i1 from if_neg (Int32.not_lt.mpr h_120)] at q
          refine gq_sub [0, 1, 2, 3, 4, 5, 6, 7] rfl ?_
          exact q
        · refine gq_aload_n (pc := 123) dX11_eyeFor_123 rfl ?_
          refine gq_getr (pc := 124) dX11_eyeFor_124 fl_X11_64_11 sh_0 rfl ?_
          refine gq_getr (pc := 127) dX11_eyeFor_127 fl_X11_167_10 sh_35 rfl ?_
          refine gq_iload_n (pc := 130) dX11_eyeFor_130 rfl ?_
          refine kt_ald7 (pc := 131) dX11_eyeFor_131 hw (by omega) ?_
          refine gq_istore (pc := 132) (l' := [(6, _), (7, _), (5, _), (0, _), (1, _), (2, _), (3, _), (4, _)]) dX11_eyeFor_132 (by decide) rfl ?_
          refine gq_iload (pc := 134) dX11_eyeFor_134 rfl ?_
          refine gq_istore (pc := 136) (l' := [(5, _), (6, _), (7, _), (0, _), (1, _), (2, _), (3, _), (4, _)]) dX11_eyeFor_136 (by decide) rfl ?_
          refine gq_iinc (pc := 138) (l' := [(7, _), (5, _), (6, _), (0, _), (1, _), (2, _), (3, _), (4, _)]) dX11_eyeFor_138 rfl (ge_inc1 i1) (by decide) rfl ?_
          refine gq_goto (pc := 141) 66 dX11_eyeFor_141 (by decide) ?_
          have q := ih (i1 + 1) (by omega)
          rw [show p_ef (p_eb r i k N) (-1) (i1 + 1) = (nI i1, p_eb r i k N i1) from if_pos (Int32.not_le.mp h_120)] at q
          refine gq_sub [0, 2, 1, 3, 4, 5, 6, 7] rfl ?_
          exact q
  refine gq_aload_n (pc := 0) dX11_eyeFor_0 rfl ?_
  refine gq_iload_n (pc := 1) dX11_eyeFor_1 rfl ?_
  refine gq_rV1i (pc := 2) dX11_eyeFor_2 cv_X11_157 sh_0 (c_noWearer _) ⟨by decide, by decide⟩ rfl rfl (Nat.le_of_ble_eq_true rfl) ?_
  refine gq_if_ne (pc := 5) 35 dX11_eyeFor_5 (by decide) (fun h_5 => ?_) (fun h_5 => ?_)
  · exact absurd (p_nt_0.mpr (p_in_E hw hi (by omega) e3)) h_5
  · refine gq_iload_n (pc := 8) dX11_eyeFor_8 rfl ?_
    refine gq_rS1i (pc := 9) dX11_eyeFor_9 cs_X11_173 (c_noSide _) ⟨by decide, by decide⟩ (Nat.le_of_ble_eq_true rfl) ?_
    refine gq_if_ne (pc := 12) 35 dX11_eyeFor_12 (by decide) (fun h_12 => ?_) (fun h_12 => ?_)
    · exact absurd (p_nt_0.mpr (p_in_le (N := 1) hs hk (by decide))) h_12
    · refine gq_iload_n (pc := 15) dX11_eyeFor_15 rfl ?_
      refine gq_iconst (pc := 16) dX11_eyeFor_16 kc_0 ?_
      refine gq_bipush (pc := 17) dX11_eyeFor_17 kb_60 ?_
      refine gq_rS3i (pc := 19) dX11_eyeFor_19 cs_X11_105 (c_outside _ _ _) ⟨by decide, by decide⟩ (Nat.le_of_ble_eq_true rfl) ?_
      refine gq_if_ne (pc := 22) 35 dX11_eyeFor_22 (by decide) (fun h_22 => ?_) (fun h_22 => ?_)
      · exact absurd (p_nt_0.mpr (p_in_le (N := 60) hN hN2 (by decide))) h_22
      · refine gq_iload (pc := 25) dX11_eyeFor_25 rfl ?_
        refine gq_iconst (pc := 27) dX11_eyeFor_27 kc_0 ?_
        refine gq_iconst (pc := 28) dX11_eyeFor_28 kc_1 ?_
        refine gq_rS3i (pc := 29) dX11_eyeFor_29 cs_X11_105 (c_outside _ _ _) ⟨by decide, by decide⟩ (Nat.le_of_ble_eq_true rfl) ?_
        refine gq_if_eq (pc := 32) 41 dX11_eyeFor_32 (by decide) (fun h_32 => ?_) (fun h_32 => ?_)
        · refine gq_aload_n (pc := 41) dX11_eyeFor_41 rfl ?_
          refine gq_getr (pc := 42) dX11_eyeFor_42 fl_X11_60_11 sh_0 rfl ?_
          refine kq_get11 (pw := 25) (pc := 45) (by decide) dX11_eyeFor_45 fl_X11_119_10 ?_
          refine gq_if_ne (pc := 48) 57 dX11_eyeFor_48 (by decide) (fun h_48 => ?_) (fun h_48 => ?_)
          · refine gq_iconst (pc := 57) dX11_eyeFor_57 kc_m1 ?_
            refine gq_istore (pc := 58) (l' := [(5, _), (0, _), (1, _), (2, _), (3, _), (4, _)]) dX11_eyeFor_58 (by decide) rfl ?_
            refine gq_iconst (pc := 60) dX11_eyeFor_60 kc_m1 ?_
            refine gq_istore (pc := 61) (l' := [(6, _), (5, _), (0, _), (1, _), (2, _), (3, _), (4, _)]) dX11_eyeFor_61 (by decide) rfl ?_
            refine gq_iconst (pc := 63) dX11_eyeFor_63 kc_0 ?_
            refine gq_istore (pc := 64) (l' := [(7, _), (6, _), (5, _), (0, _), (1, _), (2, _), (3, _), (4, _)]) dX11_eyeFor_64 (by decide) rfl ?_
            refine gq_sub [0, 1, 2, 3, 4, 5, 6, 7] rfl ?_
            exact key E 0 (by omega)
          · exact absurd h_48 (by rw [e2]; exact nI_ne0 hE0 (by omega))
        · exact absurd (by decide) h_32
set_option maxHeartbeats 1000000 in
theorem m_eyeFor_ok1 {w s n : Int32} {i k N E : Nat} (h : p_ok g (c + N) V r) (hw : w = nI i) (hi : i < V) (hs : s = nI k) (hk : k ≤ 1) (hN : n = nI N) (hN2 : N ≤ 60) (hE : E ≤ 8) (e2 : r 2 = nI E) (hE0 : 0 < E) : ge_N X ge_SH YX12_eyeFor 45 [.ref (ge_ad X.1 76), .int w, .int s, .int n, .int 1] (ge_m g r f) (some (.int (p_ef (p_eb r i k N) 0 E).2)) (ge_m (ge_row g 79 r) r (p_fs f (p_er r i k) N E)) := by
  have hV := h.2.2.1
  have e3 := h.2.1
  refine gq_ofB (l := [(0, .ref (ge_ad X.1 76)), (1, .int w), (2, .int s), (3, .int n), (4, .int 1)]) (by decide) (Nat.le_of_ble_eq_true rfl) rfl ?_
  have key : ∀ (m i1 : Nat), i1 + m = E → ge_B X ge_SH YX12_eyeFor 45 (fun v2 g2 => v2 = (some (.int (p_ef (p_eb r i k N) 0 E).2)) ∧ g2 = (ge_m (ge_row g 79 r) r (p_fs f (p_er r i k) N E))) 81 [(7, .int (nI i1)), (6, .int (p_ef (p_eb r i k N) 0 i1).2), (5, .int (p_ef (p_eb r i k N) 0 i1).1), (0, .ref (ge_ad X.1 76)), (1, .int w), (2, .int s), (3, .int n), (4, .int 1)] [] (ge_m (ge_row g 79 r) r (p_fs f (p_er r i k) N i1)) := by
    intro m
    induction m with
    | zero =>
      intro i1 hi1
      obtain rfl : i1 = E := hi1
      refine gq_iload (pc := 81) dX12_eyeFor_81 rfl ?_
      refine gq_aload_n (pc := 83) dX12_eyeFor_83 rfl ?_
      refine gq_getr (pc := 84) dX12_eyeFor_84 fl_X12_16_12 sh_76 rfl ?_
      refine gq_iconst (pc := 87) dX12_eyeFor_87 kc_2 ?_
      refine qm_aldo (pc := 88) dX12_eyeFor_88 sh_79 (by decide) kl_2 (by first | decide | omega) (by decide) ?_
      rw [ge_row_self, e2]
      refine gq_ic_ge (pc := 89) 164 dX12_eyeFor_89 (by decide) (fun h_89 => ?_) (fun h_89 => ?_)
      · refine gq_iload (pc := 164) dX12_eyeFor_164 rfl ?_
        refine gq_if_ne (pc := 166) 174 dX12_eyeFor_166 (by decide) (fun h_166 => ?_) (fun h_166 => ?_)
        · refine gq_iload (pc := 174) dX12_eyeFor_174 rfl ?_
          exact gq_iret (pc := 176) rfl dX12_eyeFor_176 ⟨rfl, rfl⟩
        · exact absurd h_166 (by decide)
      · exact absurd (Int32.le_refl _) h_89
    | succ m ih =>
      intro i1 hi1
      have ho := (p_ok_come h e2 hE hi (show k < 2 by omega) (show i1 < E by omega)).1
      refine gq_iload (pc := 81) dX12_eyeFor_81 rfl ?_
      refine gq_aload_n (pc := 83) dX12_eyeFor_83 rfl ?_
      refine gq_getr (pc := 84) dX12_eyeFor_84 fl_X12_16_12 sh_76 rfl ?_
      refine gq_iconst (pc := 87) dX12_eyeFor_87 kc_2 ?_
      refine qm_aldo (pc := 88) dX12_eyeFor_88 sh_79 (by decide) kl_2 (by first | decide | omega) (by decide) ?_
      rw [ge_row_self, e2]
      refine gq_ic_ge (pc := 89) 164 dX12_eyeFor_89 (by decide) (fun h_89 => ?_) (fun h_89 => ?_)
      · exact absurd ((nI_leI (a := E) (b := i1) (by omega) (by omega)).mp h_89) (by omega)
      · refine gq_aload_n (pc := 92) dX12_eyeFor_92 rfl ?_
        refine gq_iload_n (pc := 93) dX12_eyeFor_93 rfl ?_
        refine gq_iload_n (pc := 94) dX12_eyeFor_94 rfl ?_
        refine gq_iload (pc := 95) dX12_eyeFor_95 rfl ?_
        refine gq_rV3v (pc := 97) dX12_eyeFor_97 cv_X12_90 sh_76 (k_comes hV e3 hw hs (by omega) (by omega)) ⟨by decide, by decide⟩ rfl rfl (Nat.le_of_ble_eq_true rfl) ?_
        refine gq_aload_n (pc := 100) dX12_eyeFor_100 rfl ?_
        refine gq_iload_n (pc := 101) dX12_eyeFor_101 rfl ?_
        refine gq_rV1i (pc := 102) dX12_eyeFor_102 cv_X12_195 sh_76 (k_passes (c := c) hN (by omega) ho) ⟨by decide, by decide⟩ rfl rfl (Nat.le_of_ble_eq_true rfl) ?_
        refine gq_pop (pc := 105) dX12_eyeFor_105 rfl ?_
        refine gq_aload_n (pc := 106) dX12_eyeFor_106 rfl ?_
        refine gq_iload_n (pc := 107) dX12_eyeFor_107 rfl ?_
        refine gq_iconst (pc := 108) dX12_eyeFor_108 kc_2 ?_
        refine gq_rV2i (pc := 109) dX12_eyeFor_109 cv_X12_63 sh_76 (k_ones hw kl_2 (by omega)) ⟨by decide, by decide⟩ rfl rfl (Nat.le_of_ble_eq_true rfl) ?_
        refine gq_istore (pc := 112) (l' := [(8, _), (7, _), (6, _), (5, _), (0, _), (1, _), (2, _), (3, _), (4, _)]) dX12_eyeFor_112 (by decide) rfl ?_
        refine gq_aload_n (pc := 114) dX12_eyeFor_114 rfl ?_
        refine gq_aload_n (pc := 115) dX12_eyeFor_115 rfl ?_
        refine gq_getr (pc := 116) dX12_eyeFor_116 fl_X12_16_12 sh_76 rfl ?_
        refine gq_aload_n (pc := 119) dX12_eyeFor_119 rfl ?_
        refine gq_getr (pc := 120) dX12_eyeFor_120 fl_X12_7_12 sh_76 rfl ?_
        refine gq_rV2v (pc := 123) dX12_eyeFor_123 cv_X12_170 sh_76 (k_move_back sh_79 (by decide) (by decide) (by decide)) ⟨by decide, by decide⟩ rfl rfl (Nat.le_of_ble_eq_true rfl) ?_
        refine gq_tog (g := ge_m (ge_row g 79 r) r (p_fs f (p_er r i k) N (i1 + 1))) (by rw [ge_row_self]; rfl) ?_
        refine gq_iload (pc := 126) dX12_eyeFor_126 rfl ?_
        refine gq_iload (pc := 128) dX12_eyeFor_128 rfl ?_
        refine gq_ic_le (pc := 130) 138 dX12_eyeFor_130 (by decide) (fun h_130 => ?_) (fun h_130 => ?_)
        · refine gq_iload (pc := 138) dX12_eyeFor_138 rfl ?_
          refine gq_istore (pc := 140) (l' := [(5, _), (8, _), (7, _), (6, _), (0, _), (1, _), (2, _), (3, _), (4, _)]) dX12_eyeFor_140 (by decide) rfl ?_
          refine gq_iload (pc := 142) dX12_eyeFor_142 rfl ?_
          refine gq_iload (pc := 144) dX12_eyeFor_144 rfl ?_
          refine gq_ic_le (pc := 146) 154 dX12_eyeFor_146 (by decide) (fun h_146 => ?_) (fun h_146 => ?_)
          · refine gq_iload (pc := 154) dX12_eyeFor_154 rfl ?_
            refine gq_istore (pc := 156) (l' := [(6, _), (5, _), (8, _), (7, _), (0, _), (1, _), (2, _), (3, _), (4, _)]) dX12_eyeFor_156 (by decide) rfl ?_
            refine gq_iinc (pc := 158) (l' := [(7, _), (6, _), (5, _), (8, _), (0, _), (1, _), (2, _), (3, _), (4, _)]) dX12_eyeFor_158 rfl (ge_inc1 i1) (by decide) rfl ?_
            refine gq_goto (pc := 161) 81 dX12_eyeFor_161 (by decide) ?_
            have q := ih (i1 + 1) (by omega)
            rw [show p_ef (p_eb r i k N) 0 (i1 + 1) = p_ef (p_eb r i k N) 0 i1 from if_neg (Int32.not_lt.mpr h_130)] at q
            refine gq_sub [0, 1, 2, 4, 5, 6, 7, 8] rfl ?_
            exact q
          · exact absurd h_130 h_146
        · refine gq_iload (pc := 133) dX12_eyeFor_133 rfl ?_
          refine gq_goto (pc := 135) 140 dX12_eyeFor_135 (by decide) ?_
          refine gq_istore (pc := 140) (l' := [(5, _), (8, _), (7, _), (6, _), (0, _), (1, _), (2, _), (3, _), (4, _)]) dX12_eyeFor_140 (by decide) rfl ?_
          refine gq_iload (pc := 142) dX12_eyeFor_142 rfl ?_
          refine gq_iload (pc := 144) dX12_eyeFor_144 rfl ?_
          refine gq_ic_le (pc := 146) 154 dX12_eyeFor_146 (by decide) (fun h_146 => ?_) (fun h_146 => ?_)
          · exact absurd h_146 h_130
          · refine gq_iload (pc := 149) dX12_eyeFor_149 rfl ?_
            refine gq_goto (pc := 151) 156 dX12_eyeFor_151 (by decide) ?_
            refine gq_istore (pc := 156) (l' := [(6, _), (5, _), (8, _), (7, _), (0, _), (1, _), (2, _), (3, _), (4, _)]) dX12_eyeFor_156 (by decide) rfl ?_
            refine gq_iinc (pc := 158) (l' := [(7, _), (6, _), (5, _), (8, _), (0, _), (1, _), (2, _), (3, _), (4, _)]) dX12_eyeFor_158 rfl (ge_inc1 i1) (by decide) rfl ?_
            refine gq_goto (pc := 161) 81 dX12_eyeFor_161 (by decide) ?_
            have q := ih (i1 + 1) (by omega)
            rw [show p_ef (p_eb r i k N) 0 (i1 + 1) = (nI i1, p_eb r i k N i1) from if_pos (Int32.not_le.mp h_130)] at q
            refine gq_sub [0, 1, 2, 4, 5, 6, 7, 8] rfl ?_
            exact q
  refine gq_aload_n (pc := 0) dX12_eyeFor_0 rfl ?_
  refine gq_iload_n (pc := 1) dX12_eyeFor_1 rfl ?_
  refine gq_rV1i (pc := 2) dX12_eyeFor_2 cv_X12_84 sh_76 (k_isWearer _) ⟨by decide, by decide⟩ rfl rfl (Nat.le_of_ble_eq_true rfl) ?_
  refine gq_if_eq (pc := 5) 37 dX12_eyeFor_5 (by decide) (fun h_5 => ?_) (fun h_5 => ?_)
  · exact absurd h_5 (p_in_E hw hi (by omega) e3)
  · refine gq_iload_n (pc := 8) dX12_eyeFor_8 rfl ?_
    refine gq_iconst (pc := 9) dX12_eyeFor_9 kc_0 ?_
    refine gq_iconst (pc := 10) dX12_eyeFor_10 kc_1 ?_
    refine gq_rS3i (pc := 11) dX12_eyeFor_11 cs_X12_41 (k_in _ _ _) ⟨by decide, by decide⟩ (Nat.le_of_ble_eq_true rfl) ?_
    refine gq_if_eq (pc := 14) 37 dX12_eyeFor_14 (by decide) (fun h_14 => ?_) (fun h_14 => ?_)
    · exact absurd h_14 (p_in_le (N := 1) hs hk (by decide))
    · refine gq_iload_n (pc := 17) dX12_eyeFor_17 rfl ?_
      refine gq_iconst (pc := 18) dX12_eyeFor_18 kc_0 ?_
      refine gq_bipush (pc := 19) dX12_eyeFor_19 kb_60 ?_
      refine gq_rS3i (pc := 21) dX12_eyeFor_21 cs_X12_41 (k_in _ _ _) ⟨by decide, by decide⟩ (Nat.le_of_ble_eq_true rfl) ?_
      refine gq_if_eq (pc := 24) 37 dX12_eyeFor_24 (by decide) (fun h_24 => ?_) (fun h_24 => ?_)
      · exact absurd h_24 (p_in_le (N := 60) hN hN2 (by decide))
      · refine gq_iload (pc := 27) dX12_eyeFor_27 rfl ?_
        refine gq_iconst (pc := 29) dX12_eyeFor_29 kc_0 ?_
        refine gq_iconst (pc := 30) dX12_eyeFor_30 kc_1 ?_
        refine gq_rS3i (pc := 31) dX12_eyeFor_31 cs_X12_41 (k_in _ _ _) ⟨by decide, by decide⟩ (Nat.le_of_ble_eq_true rfl) ?_
        refine gq_if_ne (pc := 34) 44 dX12_eyeFor_34 (by decide) (fun h_34 => ?_) (fun h_34 => ?_)
        · refine gq_aload_n (pc := 44) dX12_eyeFor_44 rfl ?_
          refine gq_getr (pc := 45) dX12_eyeFor_45 fl_X12_7_12 sh_76 rfl ?_
          refine gq_iconst (pc := 48) dX12_eyeFor_48 kc_2 ?_
          refine qm_ald (pc := 49) dX12_eyeFor_49 kl_2 (by first | decide | omega) ?_
          refine gq_if_ne (pc := 50) 60 dX12_eyeFor_50 (by decide) (fun h_50 => ?_) (fun h_50 => ?_)
          · refine gq_iconst (pc := 60) dX12_eyeFor_60 kc_0 ?_
            refine gq_istore (pc := 61) (l' := [(5, _), (0, _), (1, _), (2, _), (3, _), (4, _)]) dX12_eyeFor_61 (by decide) rfl ?_
            refine gq_iconst (pc := 63) dX12_eyeFor_63 kc_m1 ?_
            refine gq_istore (pc := 64) (l' := [(6, _), (5, _), (0, _), (1, _), (2, _), (3, _), (4, _)]) dX12_eyeFor_64 (by decide) rfl ?_
            refine gq_aload_n (pc := 66) dX12_eyeFor_66 rfl ?_
            refine gq_aload_n (pc := 67) dX12_eyeFor_67 rfl ?_
            refine gq_getr (pc := 68) dX12_eyeFor_68 fl_X12_7_12 sh_76 rfl ?_
            refine gq_aload_n (pc := 71) dX12_eyeFor_71 rfl ?_
            refine gq_getr (pc := 72) dX12_eyeFor_72 fl_X12_16_12 sh_76 rfl ?_
            refine gq_rV2v (pc := 75) dX12_eyeFor_75 cv_X12_170 sh_76 (k_move_to sh_79 (by decide) (by decide)) ⟨by decide, by decide⟩ rfl rfl (Nat.le_of_ble_eq_true rfl) ?_
            refine gq_iconst (pc := 78) dX12_eyeFor_78 kc_0 ?_
            refine gq_istore (pc := 79) (l' := [(7, _), (6, _), (5, _), (0, _), (1, _), (2, _), (3, _), (4, _)]) dX12_eyeFor_79 (by decide) rfl ?_
            refine gq_sub [0, 1, 2, 3, 4, 5, 6, 7] rfl ?_
            exact key E 0 (by omega)
          · exact absurd h_50 (by rw [e2]; exact nI_ne0 hE0 (by omega))
        · exact absurd h_34 (by decide)
set_option maxHeartbeats 400000 in
theorem c_eyeFor_er {w s n a : Int32} (h : p_in w 0 (r 3 - 1) = 0 ∨ p_in s 0 1 = 0 ∨ p_in n 0 60 = 0 ∨ p_in a 0 1 = 0) : ge_N X ge_SH YX11_eyeFor 6 [.ref (ge_ad X.1 0), .int w, .int s, .int n, .int a] (ge_k g 25 r x hb) (some (.int (-1000000000 - 1))) (ge_k (ge_up g 75 1 (g 75 1 + 1)) 25 r x hb) := by
  refine gq_ofB (l := [(0, .ref (ge_ad X.1 0)), (1, .int w), (2, .int s), (3, .int n), (4, .int a)]) (by decide) (Nat.le_of_ble_eq_true rfl) rfl ?_
  refine gq_aload_n (pc := 0) dX11_eyeFor_0 rfl ?_
  refine gq_iload_n (pc := 1) dX11_eyeFor_1 rfl ?_
  refine gq_rV1i (pc := 2) dX11_eyeFor_2 cv_X11_157 sh_0 (c_noWearer _) ⟨by decide, by decide⟩ rfl rfl (Nat.le_of_ble_eq_true rfl) ?_
  refine gq_if_ne (pc := 5) 35 dX11_eyeFor_5 (by decide) (fun h_5 => ?_) (fun h_5 => ?_)
  · refine gq_aload_n (pc := 35) dX11_eyeFor_35 rfl ?_
    refine gq_iconst (pc := 36) dX11_eyeFor_36 kc_1 ?_
    refine gq_rV1i (pc := 37) dX11_eyeFor_37 cv_X11_109 sh_0 (c_error kl_1 (by decide)) ⟨by decide, by decide⟩ rfl rfl (Nat.le_of_ble_eq_true rfl) ?_
    exact gq_iret (pc := 40) rfl dX11_eyeFor_40 ⟨rfl, rfl⟩
  · refine gq_iload_n (pc := 8) dX11_eyeFor_8 rfl ?_
    refine gq_rS1i (pc := 9) dX11_eyeFor_9 cs_X11_173 (c_noSide _) ⟨by decide, by decide⟩ (Nat.le_of_ble_eq_true rfl) ?_
    refine gq_if_ne (pc := 12) 35 dX11_eyeFor_12 (by decide) (fun h_12 => ?_) (fun h_12 => ?_)
    · refine gq_aload_n (pc := 35) dX11_eyeFor_35 rfl ?_
      refine gq_iconst (pc := 36) dX11_eyeFor_36 kc_1 ?_
      refine gq_rV1i (pc := 37) dX11_eyeFor_37 cv_X11_109 sh_0 (c_error kl_1 (by decide)) ⟨by decide, by decide⟩ rfl rfl (Nat.le_of_ble_eq_true rfl) ?_
      exact gq_iret (pc := 40) rfl dX11_eyeFor_40 ⟨rfl, rfl⟩
    · refine gq_iload_n (pc := 15) dX11_eyeFor_15 rfl ?_
      refine gq_iconst (pc := 16) dX11_eyeFor_16 kc_0 ?_
      refine gq_bipush (pc := 17) dX11_eyeFor_17 kb_60 ?_
      refine gq_rS3i (pc := 19) dX11_eyeFor_19 cs_X11_105 (c_outside _ _ _) ⟨by decide, by decide⟩ (Nat.le_of_ble_eq_true rfl) ?_
      refine gq_if_ne (pc := 22) 35 dX11_eyeFor_22 (by decide) (fun h_22 => ?_) (fun h_22 => ?_)
      · refine gq_aload_n (pc := 35) dX11_eyeFor_35 rfl ?_
        refine gq_iconst (pc := 36) dX11_eyeFor_36 kc_1 ?_
        refine gq_rV1i (pc := 37) dX11_eyeFor_37 cv_X11_109 sh_0 (c_error kl_1 (by decide)) ⟨by decide, by decide⟩ rfl rfl (Nat.le_of_ble_eq_true rfl) ?_
        exact gq_iret (pc := 40) rfl dX11_eyeFor_40 ⟨rfl, rfl⟩
      · refine gq_iload (pc := 25) dX11_eyeFor_25 rfl ?_
        refine gq_iconst (pc := 27) dX11_eyeFor_27 kc_0 ?_
        refine gq_iconst (pc := 28) dX11_eyeFor_28 kc_1 ?_
        refine gq_rS3i (pc := 29) dX11_eyeFor_29 cs_X11_105 (c_outside _ _ _) ⟨by decide, by decide⟩ (Nat.le_of_ble_eq_true rfl) ?_
        refine gq_if_eq (pc := 32) 41 dX11_eyeFor_32 (by decide) (fun h_32 => ?_) (fun h_32 => ?_)
        · exact (h.elim (p_nt_0.mp h_5) (fun q => q.elim (p_nt_0.mp h_12) (fun q => q.elim (p_nt_0.mp h_22) (p_nt_0.mp h_32)))).elim
        · refine gq_aload_n (pc := 35) dX11_eyeFor_35 rfl ?_
          refine gq_iconst (pc := 36) dX11_eyeFor_36 kc_1 ?_
          refine gq_rV1i (pc := 37) dX11_eyeFor_37 cv_X11_109 sh_0 (c_error kl_1 (by decide)) ⟨by decide, by decide⟩ rfl rfl (Nat.le_of_ble_eq_true rfl) ?_
          exact gq_iret (pc := 40) rfl dX11_eyeFor_40 ⟨rfl, rfl⟩
set_option maxHeartbeats 400000 in
theorem m_eyeFor_er {w s n a : Int32} (h : p_in w 0 (r 3 - 1) = 0 ∨ p_in s 0 1 = 0 ∨ p_in n 0 60 = 0 ∨ p_in a 0 1 = 0) : ge_N X ge_SH YX12_eyeFor 45 [.ref (ge_ad X.1 76), .int w, .int s, .int n, .int a] (ge_m g r f) (some (.int (-1000000001))) (ge_m (ge_up g 81 1 (g 81 1 + 1)) r f) := by
  refine gq_ofB (l := [(0, .ref (ge_ad X.1 76)), (1, .int w), (2, .int s), (3, .int n), (4, .int a)]) (by decide) (Nat.le_of_ble_eq_true rfl) rfl ?_
  refine gq_aload_n (pc := 0) dX12_eyeFor_0 rfl ?_
  refine gq_iload_n (pc := 1) dX12_eyeFor_1 rfl ?_
  refine gq_rV1i (pc := 2) dX12_eyeFor_2 cv_X12_84 sh_76 (k_isWearer _) ⟨by decide, by decide⟩ rfl rfl (Nat.le_of_ble_eq_true rfl) ?_
  refine gq_if_eq (pc := 5) 37 dX12_eyeFor_5 (by decide) (fun h_5 => ?_) (fun h_5 => ?_)
  · refine gq_aload_n (pc := 37) dX12_eyeFor_37 rfl ?_
    refine gq_ldc (pc := 38) dX12_eyeFor_38 kn_X12_53 ?_
    refine gq_rV1i (pc := 40) dX12_eyeFor_40 cv_X12_54 sh_76 (k_errs (j := 1) (by decide) (by decide)) ⟨by decide, by decide⟩ rfl rfl (Nat.le_of_ble_eq_true rfl) ?_
    exact gq_iret (pc := 43) rfl dX12_eyeFor_43 ⟨rfl, rfl⟩
  · refine gq_iload_n (pc := 8) dX12_eyeFor_8 rfl ?_
    refine gq_iconst (pc := 9) dX12_eyeFor_9 kc_0 ?_
    refine gq_iconst (pc := 10) dX12_eyeFor_10 kc_1 ?_
    refine gq_rS3i (pc := 11) dX12_eyeFor_11 cs_X12_41 (k_in _ _ _) ⟨by decide, by decide⟩ (Nat.le_of_ble_eq_true rfl) ?_
    refine gq_if_eq (pc := 14) 37 dX12_eyeFor_14 (by decide) (fun h_14 => ?_) (fun h_14 => ?_)
    · refine gq_aload_n (pc := 37) dX12_eyeFor_37 rfl ?_
      refine gq_ldc (pc := 38) dX12_eyeFor_38 kn_X12_53 ?_
      refine gq_rV1i (pc := 40) dX12_eyeFor_40 cv_X12_54 sh_76 (k_errs (j := 1) (by decide) (by decide)) ⟨by decide, by decide⟩ rfl rfl (Nat.le_of_ble_eq_true rfl) ?_
      exact gq_iret (pc := 43) rfl dX12_eyeFor_43 ⟨rfl, rfl⟩
    · refine gq_iload_n (pc := 17) dX12_eyeFor_17 rfl ?_
      refine gq_iconst (pc := 18) dX12_eyeFor_18 kc_0 ?_
      refine gq_bipush (pc := 19) dX12_eyeFor_19 kb_60 ?_
      refine gq_rS3i (pc := 21) dX12_eyeFor_21 cs_X12_41 (k_in _ _ _) ⟨by decide, by decide⟩ (Nat.le_of_ble_eq_true rfl) ?_
      refine gq_if_eq (pc := 24) 37 dX12_eyeFor_24 (by decide) (fun h_24 => ?_) (fun h_24 => ?_)
      · refine gq_aload_n (pc := 37) dX12_eyeFor_37 rfl ?_
        refine gq_ldc (pc := 38) dX12_eyeFor_38 kn_X12_53 ?_
        refine gq_rV1i (pc := 40) dX12_eyeFor_40 cv_X12_54 sh_76 (k_errs (j := 1) (by decide) (by decide)) ⟨by decide, by decide⟩ rfl rfl (Nat.le_of_ble_eq_true rfl) ?_
        exact gq_iret (pc := 43) rfl dX12_eyeFor_43 ⟨rfl, rfl⟩
      · refine gq_iload (pc := 27) dX12_eyeFor_27 rfl ?_
        refine gq_iconst (pc := 29) dX12_eyeFor_29 kc_0 ?_
        refine gq_iconst (pc := 30) dX12_eyeFor_30 kc_1 ?_
        refine gq_rS3i (pc := 31) dX12_eyeFor_31 cs_X12_41 (k_in _ _ _) ⟨by decide, by decide⟩ (Nat.le_of_ble_eq_true rfl) ?_
        refine gq_if_ne (pc := 34) 44 dX12_eyeFor_34 (by decide) (fun h_34 => ?_) (fun h_34 => ?_)
        · exact (h.elim h_5 (fun q => q.elim h_14 (fun q => q.elim h_24 h_34))).elim
        · refine gq_aload_n (pc := 37) dX12_eyeFor_37 rfl ?_
          refine gq_ldc (pc := 38) dX12_eyeFor_38 kn_X12_53 ?_
          refine gq_rV1i (pc := 40) dX12_eyeFor_40 cv_X12_54 sh_76 (k_errs (j := 1) (by decide) (by decide)) ⟨by decide, by decide⟩ rfl rfl (Nat.le_of_ble_eq_true rfl) ?_
          exact gq_iret (pc := 43) rfl dX12_eyeFor_43 ⟨rfl, rfl⟩
set_option maxHeartbeats 400000 in
theorem c_eyeFor_no {w s n a : Int32} (h1 : ¬ p_in w 0 (r 3 - 1) = 0) (h2 : ¬ p_in s 0 1 = 0) (h3 : ¬ p_in n 0 60 = 0) (h4 : ¬ p_in a 0 1 = 0) (h5 : r 2 = 0) : ge_N X ge_SH YX11_eyeFor 6 [.ref (ge_ad X.1 0), .int w, .int s, .int n, .int a] (ge_k g 25 r x hb) (some (.int (-1000000000 - 2))) (ge_k (ge_up g 75 2 (g 75 2 + 1)) 25 r x hb) := by
  refine gq_ofB (l := [(0, .ref (ge_ad X.1 0)), (1, .int w), (2, .int s), (3, .int n), (4, .int a)]) (by decide) (Nat.le_of_ble_eq_true rfl) rfl ?_
  refine gq_aload_n (pc := 0) dX11_eyeFor_0 rfl ?_
  refine gq_iload_n (pc := 1) dX11_eyeFor_1 rfl ?_
  refine gq_rV1i (pc := 2) dX11_eyeFor_2 cv_X11_157 sh_0 (c_noWearer _) ⟨by decide, by decide⟩ rfl rfl (Nat.le_of_ble_eq_true rfl) ?_
  refine gq_if_ne (pc := 5) 35 dX11_eyeFor_5 (by decide) (fun h_5 => ?_) (fun h_5 => ?_)
  · exact absurd (p_nt_0.mpr h1) h_5
  · refine gq_iload_n (pc := 8) dX11_eyeFor_8 rfl ?_
    refine gq_rS1i (pc := 9) dX11_eyeFor_9 cs_X11_173 (c_noSide _) ⟨by decide, by decide⟩ (Nat.le_of_ble_eq_true rfl) ?_
    refine gq_if_ne (pc := 12) 35 dX11_eyeFor_12 (by decide) (fun h_12 => ?_) (fun h_12 => ?_)
    · exact absurd (p_nt_0.mpr h2) h_12
    · refine gq_iload_n (pc := 15) dX11_eyeFor_15 rfl ?_
      refine gq_iconst (pc := 16) dX11_eyeFor_16 kc_0 ?_
      refine gq_bipush (pc := 17) dX11_eyeFor_17 kb_60 ?_
      refine gq_rS3i (pc := 19) dX11_eyeFor_19 cs_X11_105 (c_outside _ _ _) ⟨by decide, by decide⟩ (Nat.le_of_ble_eq_true rfl) ?_
      refine gq_if_ne (pc := 22) 35 dX11_eyeFor_22 (by decide) (fun h_22 => ?_) (fun h_22 => ?_)
      · exact absurd (p_nt_0.mpr h3) h_22
      · refine gq_iload (pc := 25) dX11_eyeFor_25 rfl ?_
        refine gq_iconst (pc := 27) dX11_eyeFor_27 kc_0 ?_
        refine gq_iconst (pc := 28) dX11_eyeFor_28 kc_1 ?_
        refine gq_rS3i (pc := 29) dX11_eyeFor_29 cs_X11_105 (c_outside _ _ _) ⟨by decide, by decide⟩ (Nat.le_of_ble_eq_true rfl) ?_
        refine gq_if_eq (pc := 32) 41 dX11_eyeFor_32 (by decide) (fun h_32 => ?_) (fun h_32 => ?_)
        · refine gq_aload_n (pc := 41) dX11_eyeFor_41 rfl ?_
          refine gq_getr (pc := 42) dX11_eyeFor_42 fl_X11_60_11 sh_0 rfl ?_
          refine kq_get11 (pw := 25) (pc := 45) (by decide) dX11_eyeFor_45 fl_X11_119_10 ?_
          refine gq_if_ne (pc := 48) 57 dX11_eyeFor_48 (by decide) (fun h_48 => ?_) (fun h_48 => ?_)
          · exact absurd h5 h_48
          · refine gq_aload_n (pc := 51) dX11_eyeFor_51 rfl ?_
            refine gq_iconst (pc := 52) dX11_eyeFor_52 kc_2 ?_
            refine gq_rV1i (pc := 53) dX11_eyeFor_53 cv_X11_109 sh_0 (c_error kl_2 (by decide)) ⟨by decide, by decide⟩ rfl rfl (Nat.le_of_ble_eq_true rfl) ?_
            exact gq_iret (pc := 56) rfl dX11_eyeFor_56 ⟨rfl, rfl⟩
        · exact absurd (p_nt_0.mpr h4) h_32
set_option maxHeartbeats 400000 in
theorem m_eyeFor_no {w s n a : Int32} (h1 : ¬ p_in w 0 (r 3 - 1) = 0) (h2 : ¬ p_in s 0 1 = 0) (h3 : ¬ p_in n 0 60 = 0) (h4 : ¬ p_in a 0 1 = 0) (h5 : r 2 = 0) : ge_N X ge_SH YX12_eyeFor 45 [.ref (ge_ad X.1 76), .int w, .int s, .int n, .int a] (ge_m g r f) (some (.int (-1000000002))) (ge_m (ge_up g 81 2 (g 81 2 + 1)) r f) := by
  refine gq_ofB (l := [(0, .ref (ge_ad X.1 76)), (1, .int w), (2, .int s), (3, .int n), (4, .int a)]) (by decide) (Nat.le_of_ble_eq_true rfl) rfl ?_
  refine gq_aload_n (pc := 0) dX12_eyeFor_0 rfl ?_
  refine gq_iload_n (pc := 1) dX12_eyeFor_1 rfl ?_
  refine gq_rV1i (pc := 2) dX12_eyeFor_2 cv_X12_84 sh_76 (k_isWearer _) ⟨by decide, by decide⟩ rfl rfl (Nat.le_of_ble_eq_true rfl) ?_
  refine gq_if_eq (pc := 5) 37 dX12_eyeFor_5 (by decide) (fun h_5 => ?_) (fun h_5 => ?_)
  · exact absurd h_5 h1
  · refine gq_iload_n (pc := 8) dX12_eyeFor_8 rfl ?_
    refine gq_iconst (pc := 9) dX12_eyeFor_9 kc_0 ?_
    refine gq_iconst (pc := 10) dX12_eyeFor_10 kc_1 ?_
    refine gq_rS3i (pc := 11) dX12_eyeFor_11 cs_X12_41 (k_in _ _ _) ⟨by decide, by decide⟩ (Nat.le_of_ble_eq_true rfl) ?_
    refine gq_if_eq (pc := 14) 37 dX12_eyeFor_14 (by decide) (fun h_14 => ?_) (fun h_14 => ?_)
    · exact absurd h_14 h2
    · refine gq_iload_n (pc := 17) dX12_eyeFor_17 rfl ?_
      refine gq_iconst (pc := 18) dX12_eyeFor_18 kc_0 ?_
      refine gq_bipush (pc := 19) dX12_eyeFor_19 kb_60 ?_
      refine gq_rS3i (pc := 21) dX12_eyeFor_21 cs_X12_41 (k_in _ _ _) ⟨by decide, by decide⟩ (Nat.le_of_ble_eq_true rfl) ?_
      refine gq_if_eq (pc := 24) 37 dX12_eyeFor_24 (by decide) (fun h_24 => ?_) (fun h_24 => ?_)
      · exact absurd h_24 h3
      · refine gq_iload (pc := 27) dX12_eyeFor_27 rfl ?_
        refine gq_iconst (pc := 29) dX12_eyeFor_29 kc_0 ?_
        refine gq_iconst (pc := 30) dX12_eyeFor_30 kc_1 ?_
        refine gq_rS3i (pc := 31) dX12_eyeFor_31 cs_X12_41 (k_in _ _ _) ⟨by decide, by decide⟩ (Nat.le_of_ble_eq_true rfl) ?_
        refine gq_if_ne (pc := 34) 44 dX12_eyeFor_34 (by decide) (fun h_34 => ?_) (fun h_34 => ?_)
        · refine gq_aload_n (pc := 44) dX12_eyeFor_44 rfl ?_
          refine gq_getr (pc := 45) dX12_eyeFor_45 fl_X12_7_12 sh_76 rfl ?_
          refine gq_iconst (pc := 48) dX12_eyeFor_48 kc_2 ?_
          refine qm_ald (pc := 49) dX12_eyeFor_49 kl_2 (by first | decide | omega) ?_
          refine gq_if_ne (pc := 50) 60 dX12_eyeFor_50 (by decide) (fun h_50 => ?_) (fun h_50 => ?_)
          · exact absurd h5 h_50
          · refine gq_aload_n (pc := 53) dX12_eyeFor_53 rfl ?_
            refine gq_ldc (pc := 54) dX12_eyeFor_54 kn_X12_202 ?_
            refine gq_rV1i (pc := 56) dX12_eyeFor_56 cv_X12_54 sh_76 (k_errs (j := 2) (by decide) (by decide)) ⟨by decide, by decide⟩ rfl rfl (Nat.le_of_ble_eq_true rfl) ?_
            exact gq_iret (pc := 59) rfl dX12_eyeFor_59 ⟨rfl, rfl⟩
        · exact absurd h_34 h4
end T3
