section W8
variable {X : ge_X} {S : List ge_S} {y : ge_Y} {d : Nat} {Q : Option Value → ge_G → Prop} {l : List (Nat × Value)} {rest : List Value} {g : ge_G} {pc : Nat}
def ge_cc (own : String) (idx : Nat) : Prop := ∀ w ∈ ([.methodLink own idx arraycopyName, .native arraycopyName, .static arraycopyName, .initialized "java/lang/System"] : List Cond), w ∈ ge_tbl
theorem ge_copy {idx p0 p1 n0 n1 : Nat} {sp dp n : Int32} {a b m : Nat} (dg : decode y.2.1 pc = .ok (.invokestatic idx, 3)) (hc : ge_cc y.1.cls idx) (hs0 : S[p0]? = some (.inr (.inl n0))) (hs1 : S[p1]? = some (.inr (.inl n1))) (hsp : sp = nI a) (hdp : dp = nI b) (hm : n = nI m) (h4 : a + m ≤ n0) (h5 : b + m ≤ n1) (hn0 : n0 < 1000) (hn1 : n1 < 1000) (hd : 1 ≤ d) (hr : (rest.map fun v => v.category).sum ≤ 8)
    (kk : ge_A X S y d Q (pc + 3) l rest (ge_row g p1 (va_cpy (g p0) (g p1) a b m))) : ge_A X S y d Q pc l (.int n :: .int dp :: .ref (ge_ad X.1 p1) :: .int sp :: .ref (ge_ad X.1 p0) :: rest) g := by
  intro pr lc e s m0 args below meth c H locs ls C hH hS hls
  have c1 : sp.toNatClampNeg = a := by rw [hsp]; exact nI_clamp (by omega)
  have c2 : dp.toNatClampNeg = b := by rw [hdp]; exact nI_clamp (by omega)
  have c3 : n.toNatClampNeg = m := by rw [hm]; exact nI_clamp (by omega)
  have z1 : ¬ sp < 0 := by rw [hsp]; exact nI_pos (by omega)
  have z2 : ¬ dp < 0 := by rw [hdp]; exact nI_pos (by omega)
  have z3 : ¬ n < 0 := by rw [hm]; exact nI_pos (by omega)
  have w1 := C.2.2.2.2.1 _ (hc _ (List.mem_cons_self))
  have w2 := C.2.2.2.2.1 _ (hc _ (List.mem_cons_of_mem _ List.mem_cons_self))
  have w3 := C.2.2.2.2.1 _ (hc _ (List.mem_cons_of_mem _ (List.mem_cons_of_mem _ List.mem_cons_self)))
  have w4 := C.2.2.2.2.1 _ (hc _ (List.mem_cons_of_mem _ (List.mem_cons_of_mem _ (List.mem_cons_of_mem _ List.mem_cons_self))))
  refine va_copyi (D := X.2.2.1) (cl := vwCl) (tys := ge_ty X) (ws := ge_w X S g) (ty := .int) C.1 C.2.1 (C.2.2.1.trans hls.1.symm) C.2.2.2.1 w1 w2 w3 w4 C.2.2.2.2.2.2.2.1 hH.1 hH.2 hS p0 p1 0 0 (ge_w_get X S g hs0) (ge_w_get X S g hs1) rfl rfl rfl z1 z2 z3 (by rw [c1, c3]; exact h4) (by rw [c2, c3]; exact h5) (fun i _ => rfl) hd ?_ dg ?_
  · show _ + _ ≤ 48 * d
    have : nativeFrameWords "java/lang/System" "arraycopy" 5 = 7 := by decide
    omega
  · intro H1 locs1 hP1 hD1 hS1
    rw [c1, c2, c3] at hP1 hD1
    rw [ge_wa hs1] at hP1 hD1
    exact kk pr lc e s m0 args below meth c H1 locs1 ls C ⟨hP1, hD1⟩ hS1 hls
theorem va_cpy_q {f f' h h' : Nat → Int32} (h1 : ∀ k, f k = f' k) (h2 : ∀ k, h k = h' k) (a b m : Nat) : va_cpy f h a b m = va_cpy f' h' a b m := by
  rw [show f = f' from funext h1, show h = h' from funext h2]
theorem gq_copy {idx p0 p1 n0 n1 : Nat} {sp dp n : Int32} {a b m : Nat} (dg : decode y.2.1 pc = .ok (.invokestatic idx, 3)) (hc : ge_cc y.1.cls idx) (hs0 : S[p0]? = some (.inr (.inl n0))) (hs1 : S[p1]? = some (.inr (.inl n1))) (hsp : sp = nI a) (hdp : dp = nI b) (hm : n = nI m) (h4 : a + m ≤ n0) (h5 : b + m ≤ n1) (hn : n0 < 1000 ∧ n1 < 1000) (hz : (p0 ≠ 17 ∧ p0 ≠ 76) ∧ p1 ≠ 17 ∧ p1 ≠ 76) (hd : 1 ≤ d) (hr : (rest.map fun v => v.category).sum ≤ 8)
    (kk : ge_B X S y d Q (pc + 3) l rest (ge_row g p1 (va_cpy (g p0) (g p1) a b m))) : ge_B X S y d Q pc l (.int n :: .int dp :: .ref (ge_ad X.1 p1) :: .int sp :: .ref (ge_ad X.1 p0) :: rest) g := by
  intro g1 hg
  refine ge_copy dg hc hs0 hs1 hsp hdp hm h4 h5 hn.1 hn.2 hd hr (kk _ ?_)
  rw [va_cpy_q (fun k => hg p0 k (by unfold ge_Z; omega)) (fun k => hg p1 k (by unfold ge_Z; omega))]
  exact ge_q_row hg p1 _
theorem cc_X7_23 : ge_cc RX7 23 := ge_uw [681, 683, 682, 85] (by decide +kernel) (by decide +kernel)
theorem cc_X10_57 : ge_cc RX10 57 := ge_uw [734, 683, 682, 85] (by decide +kernel) (by decide +kernel)
theorem cc_X11_306 : ge_cc RX11 306 := ge_uw [933, 683, 682, 85] (by decide +kernel) (by decide +kernel)
end W8
section W9
variable {X : ge_X} {g : ge_G} {r x hb : Nat → Int32} {c : Nat}
/-- the World at qw is as the row has it -/
def ge_wr (g : ge_G) (q : Nat) (r : Nat → Int32) : Prop := (g q 11 = r 2 ∧ g q 12 = r 3 ∧ g q 13 = r 0 ∧ g q 14 = r 1) ∧ (∀ t, t < 10 → g (q + 1) t = r (8 + t)) ∧ (∀ e, e < 8 → g (q + 2) e = p_e r e 0) ∧ (∀ e, e < 8 → g (q + 3) e = p_e r e 1) ∧ (∀ e, e < 8 → g (q + 4) e = p_e r e 2) ∧ (∀ e, e < 8 → g (q + 5) e = p_e r e 3) ∧ (∀ s, s < 12 → g (q + 6) s = p_o r (s / 2) (s % 2)) ∧ (∀ w, w < 6 → g (q + 7) w = p_o r w 2) ∧ (∀ w, w < 6 → g (q + 8) w = p_o r w 3)
def p_x0 (x : Nat → Int32) : Nat → Int32 := fun k => if k = 15 then 0 else if k = 16 then -1 else if k = 17 then 0 else if k = 18 then -1 else x k
theorem ge_wr_k (pw : Nat) : ge_wr (ge_k g pw r x hb) pw r := by
  refine ⟨⟨?_, ?_, ?_, ?_⟩, ?_, ?_, ?_, ?_, ?_, ?_, ?_, ?_⟩
  · rw [ge_k_0]; rfl
  · rw [ge_k_0]; rfl
  · rw [ge_k_0]; rfl
  · rw [ge_k_0]; rfl
  · intro k _; rw [ge_k_1]
  · intro k _; rw [ge_k_2]
  · intro k _; rw [ge_k_3]
  · intro k _; rw [ge_k_4]
  · intro k _; rw [ge_k_5]
  · intro k _; rw [ge_k_6]
  · intro k _; rw [ge_k_7]
  · intro k _; rw [ge_k_8]
set_option maxHeartbeats 2000000 in
theorem k_copy_35_25 (h : ge_wr g 25 r) : ge_N X ge_SH YX10_copyFrom 1 [.ref (ge_ad X.1 35), .ref (ge_ad X.1 25)] g none (ge_k g 35 r (p_x0 (g 35)) (g 44)) := by
  obtain ⟨⟨a1, a2, a3, a4⟩, b1, b2, b3, b4, b5, b6, b7, b8⟩ := h
  refine gq_ofB (l := [(0, .ref (ge_ad X.1 35)), (1, .ref (ge_ad X.1 25))]) (by decide) (Nat.le_of_ble_eq_true rfl) rfl ?_
  refine gq_aload_n (pc := 0) dX10_copyFrom_0 rfl ?_
  refine gq_getr (pc := 1) dX10_copyFrom_1 fl_X10_19_10 sh_25 rfl ?_
  refine gq_iconst (pc := 4) dX10_copyFrom_4 kc_0 ?_
  refine gq_aload_n (pc := 5) dX10_copyFrom_5 rfl ?_
  refine gq_getr (pc := 6) dX10_copyFrom_6 fl_X10_19_10 sh_35 rfl ?_
  refine gq_iconst (pc := 9) dX10_copyFrom_9 kc_0 ?_
  refine gq_bipush (pc := 10) dX10_copyFrom_10 kb_10 ?_
  refine gq_copy (pc := 12) dX10_copyFrom_12 cc_X10_57 sh_26 sh_36 kl_0 kl_0 kl_10 (by decide) (by decide) (by decide) (by decide) (by decide) (Nat.le_of_ble_eq_true rfl) ?_
  refine gq_aload_n (pc := 15) dX10_copyFrom_15 rfl ?_
  refine gq_getr (pc := 16) dX10_copyFrom_16 fl_X10_23_10 sh_25 rfl ?_
  refine gq_iconst (pc := 19) dX10_copyFrom_19 kc_0 ?_
  refine gq_aload_n (pc := 20) dX10_copyFrom_20 rfl ?_
  refine gq_getr (pc := 21) dX10_copyFrom_21 fl_X10_23_10 sh_35 rfl ?_
  refine gq_iconst (pc := 24) dX10_copyFrom_24 kc_0 ?_
  refine gq_bipush (pc := 25) dX10_copyFrom_25 kb_8 ?_
  refine gq_copy (pc := 27) dX10_copyFrom_27 cc_X10_57 sh_27 sh_37 kl_0 kl_0 kl_8 (by decide) (by decide) (by decide) (by decide) (by decide) (Nat.le_of_ble_eq_true rfl) ?_
  refine gq_aload_n (pc := 30) dX10_copyFrom_30 rfl ?_
  refine gq_getr (pc := 31) dX10_copyFrom_31 fl_X10_26_10 sh_25 rfl ?_
  refine gq_iconst (pc := 34) dX10_copyFrom_34 kc_0 ?_
  refine gq_aload_n (pc := 35) dX10_copyFrom_35 rfl ?_
  refine gq_getr (pc := 36) dX10_copyFrom_36 fl_X10_26_10 sh_35 rfl ?_
  refine gq_iconst (pc := 39) dX10_copyFrom_39 kc_0 ?_
  refine gq_bipush (pc := 40) dX10_copyFrom_40 kb_8 ?_
  refine gq_copy (pc := 42) dX10_copyFrom_42 cc_X10_57 sh_28 sh_38 kl_0 kl_0 kl_8 (by decide) (by decide) (by decide) (by decide) (by decide) (Nat.le_of_ble_eq_true rfl) ?_
  refine gq_aload_n (pc := 45) dX10_copyFrom_45 rfl ?_
  refine gq_getr (pc := 46) dX10_copyFrom_46 fl_X10_29_10 sh_25 rfl ?_
  refine gq_iconst (pc := 49) dX10_copyFrom_49 kc_0 ?_
  refine gq_aload_n (pc := 50) dX10_copyFrom_50 rfl ?_
  refine gq_getr (pc := 51) dX10_copyFrom_51 fl_X10_29_10 sh_35 rfl ?_
  refine gq_iconst (pc := 54) dX10_copyFrom_54 kc_0 ?_
  refine gq_bipush (pc := 55) dX10_copyFrom_55 kb_8 ?_
  refine gq_copy (pc := 57) dX10_copyFrom_57 cc_X10_57 sh_29 sh_39 kl_0 kl_0 kl_8 (by decide) (by decide) (by decide) (by decide) (by decide) (Nat.le_of_ble_eq_true rfl) ?_
  refine gq_aload_n (pc := 60) dX10_copyFrom_60 rfl ?_
  refine gq_getr (pc := 61) dX10_copyFrom_61 fl_X10_32_10 sh_25 rfl ?_
  refine gq_iconst (pc := 64) dX10_copyFrom_64 kc_0 ?_
  refine gq_aload_n (pc := 65) dX10_copyFrom_65 rfl ?_
  refine gq_getr (pc := 66) dX10_copyFrom_66 fl_X10_32_10 sh_35 rfl ?_
  refine gq_iconst (pc := 69) dX10_copyFrom_69 kc_0 ?_
  refine gq_bipush (pc := 70) dX10_copyFrom_70 kb_8 ?_
  refine gq_copy (pc := 72) dX10_copyFrom_72 cc_X10_57 sh_30 sh_40 kl_0 kl_0 kl_8 (by decide) (by decide) (by decide) (by decide) (by decide) (Nat.le_of_ble_eq_true rfl) ?_
  refine gq_aload_n (pc := 75) dX10_copyFrom_75 rfl ?_
  refine gq_getr (pc := 76) dX10_copyFrom_76 fl_X10_35_10 sh_25 rfl ?_
  refine gq_iconst (pc := 79) dX10_copyFrom_79 kc_0 ?_
  refine gq_aload_n (pc := 80) dX10_copyFrom_80 rfl ?_
  refine gq_getr (pc := 81) dX10_copyFrom_81 fl_X10_35_10 sh_35 rfl ?_
  refine gq_iconst (pc := 84) dX10_copyFrom_84 kc_0 ?_
  refine gq_bipush (pc := 85) dX10_copyFrom_85 kb_12 ?_
  refine gq_copy (pc := 87) dX10_copyFrom_87 cc_X10_57 sh_31 sh_41 kl_0 kl_0 kl_12 (by decide) (by decide) (by decide) (by decide) (by decide) (Nat.le_of_ble_eq_true rfl) ?_
  refine gq_aload_n (pc := 90) dX10_copyFrom_90 rfl ?_
  refine gq_getr (pc := 91) dX10_copyFrom_91 fl_X10_38_10 sh_25 rfl ?_
  refine gq_iconst (pc := 94) dX10_copyFrom_94 kc_0 ?_
  refine gq_aload_n (pc := 95) dX10_copyFrom_95 rfl ?_
  refine gq_getr (pc := 96) dX10_copyFrom_96 fl_X10_38_10 sh_35 rfl ?_
  refine gq_iconst (pc := 99) dX10_copyFrom_99 kc_0 ?_
  refine gq_bipush (pc := 100) dX10_copyFrom_100 kb_6 ?_
  refine gq_copy (pc := 102) dX10_copyFrom_102 cc_X10_57 sh_32 sh_42 kl_0 kl_0 kl_6 (by decide) (by decide) (by decide) (by decide) (by decide) (Nat.le_of_ble_eq_true rfl) ?_
  refine gq_aload_n (pc := 105) dX10_copyFrom_105 rfl ?_
  refine gq_getr (pc := 106) dX10_copyFrom_106 fl_X10_41_10 sh_25 rfl ?_
  refine gq_iconst (pc := 109) dX10_copyFrom_109 kc_0 ?_
  refine gq_aload_n (pc := 110) dX10_copyFrom_110 rfl ?_
  refine gq_getr (pc := 111) dX10_copyFrom_111 fl_X10_41_10 sh_35 rfl ?_
  refine gq_iconst (pc := 114) dX10_copyFrom_114 kc_0 ?_
  refine gq_bipush (pc := 115) dX10_copyFrom_115 kb_6 ?_
  refine gq_copy (pc := 117) dX10_copyFrom_117 cc_X10_57 sh_33 sh_43 kl_0 kl_0 kl_6 (by decide) (by decide) (by decide) (by decide) (by decide) (Nat.le_of_ble_eq_true rfl) ?_
  refine gq_aload_n (pc := 120) dX10_copyFrom_120 rfl ?_
  refine gq_aload_n (pc := 121) dX10_copyFrom_121 rfl ?_
  refine gq_geti (pc := 122) dX10_copyFrom_122 fl_X10_63_10 sh_25 rfl (by unfold ge_Z; omega) ?_
  refine gq_puti (pc := 125) dX10_copyFrom_125 fp_X10_63_10 sh_35 rfl ?_
  refine gq_aload_n (pc := 128) dX10_copyFrom_128 rfl ?_
  refine gq_aload_n (pc := 129) dX10_copyFrom_129 rfl ?_
  refine gq_geti (pc := 130) dX10_copyFrom_130 fl_X10_66_10 sh_25 rfl (by unfold ge_Z; omega) ?_
  refine gq_puti (pc := 133) dX10_copyFrom_133 fp_X10_66_10 sh_35 rfl ?_
  refine gq_aload_n (pc := 136) dX10_copyFrom_136 rfl ?_
  refine gq_aload_n (pc := 137) dX10_copyFrom_137 rfl ?_
  refine gq_geti (pc := 138) dX10_copyFrom_138 fl_X10_69_10 sh_25 rfl (by unfold ge_Z; omega) ?_
  refine gq_puti (pc := 141) dX10_copyFrom_141 fp_X10_69_10 sh_35 rfl ?_
  refine gq_aload_n (pc := 144) dX10_copyFrom_144 rfl ?_
  refine gq_aload_n (pc := 145) dX10_copyFrom_145 rfl ?_
  refine gq_geti (pc := 146) dX10_copyFrom_146 fl_X10_47_10 sh_25 rfl (by unfold ge_Z; omega) ?_
  refine gq_puti (pc := 149) dX10_copyFrom_149 fp_X10_47_10 sh_35 rfl ?_
  refine gq_aload_n (pc := 152) dX10_copyFrom_152 rfl ?_
  refine gq_iconst (pc := 153) dX10_copyFrom_153 kc_0 ?_
  refine gq_puti (pc := 154) dX10_copyFrom_154 fp_X10_72_10 sh_35 rfl ?_
  refine gq_aload_n (pc := 157) dX10_copyFrom_157 rfl ?_
  refine gq_iconst (pc := 158) dX10_copyFrom_158 kc_m1 ?_
  refine gq_puti (pc := 159) dX10_copyFrom_159 fp_X10_51_10 sh_35 rfl ?_
  refine gq_aload_n (pc := 162) dX10_copyFrom_162 rfl ?_
  refine gq_iconst (pc := 163) dX10_copyFrom_163 kc_0 ?_
  refine gq_puti (pc := 164) dX10_copyFrom_164 fp_X10_75_10 sh_35 rfl ?_
  refine gq_aload_n (pc := 167) dX10_copyFrom_167 rfl ?_
  refine gq_iconst (pc := 168) dX10_copyFrom_168 kc_m1 ?_
  refine gq_puti (pc := 169) dX10_copyFrom_169 fp_X10_54_10 sh_35 rfl ?_
  refine gq_ag (g' := ge_k g 35 r (p_x0 (g 35)) (g 44)) (ge_k_ag (by decide) ?_ ?_ ?_ ?_ ?_ ?_ ?_ ?_ ?_ ?_ ?_) (gq_vret (pc := 172) rfl dX10_copyFrom_172 ⟨rfl, rfl⟩)
  · intro k hk; rw [ge_k_0]; rcases (by omega : k = 11 ∨ k = 12 ∨ k = 13 ∨ k = 14 ∨ k = 15 ∨ k = 16 ∨ k = 17 ∨ k = 18 ∨ k < 11) with rfl | rfl | rfl | rfl | rfl | rfl | rfl | rfl | h <;> first | exact a1 | exact a2 | exact a3 | exact a4 | rfl | (simp [ge_up, ge_row, upd, p_x0, show k ≠ 11 by omega, show k ≠ 12 by omega, show k ≠ 13 by omega, show k ≠ 14 by omega, show k ≠ 15 by omega, show k ≠ 16 by omega, show k ≠ 17 by omega, show k ≠ 18 by omega])
  · intro k hk; rw [← b1 k hk]; simp [ge_up, ge_row, va_cpy, hk]
  · intro k hk; rw [← b2 k hk]; simp [ge_up, ge_row, va_cpy, hk]
  · intro k hk; rw [← b3 k hk]; simp [ge_up, ge_row, va_cpy, hk]
  · intro k hk; rw [← b4 k hk]; simp [ge_up, ge_row, va_cpy, hk]
  · intro k hk; rw [← b5 k hk]; simp [ge_up, ge_row, va_cpy, hk]
  · intro k hk; rw [← b6 k hk]; simp [ge_up, ge_row, va_cpy, hk]
  · intro k hk; rw [← b7 k hk]; simp [ge_up, ge_row, va_cpy, hk]
  · intro k hk; rw [← b8 k hk]; simp [ge_up, ge_row, va_cpy, hk]
  · intro k hk; simp [ge_up, ge_row]
  · intro q hq; funext k; simp [ge_up, ge_row, show q ≠ 35 by omega, show q ≠ 36 by omega, show q ≠ 37 by omega, show q ≠ 38 by omega, show q ≠ 39 by omega, show q ≠ 40 by omega, show q ≠ 41 by omega, show q ≠ 42 by omega, show q ≠ 43 by omega]
set_option maxHeartbeats 2000000 in
theorem k_copy_45_25 (h : ge_wr g 25 r) : ge_N X ge_SH YX10_copyFrom 1 [.ref (ge_ad X.1 45), .ref (ge_ad X.1 25)] g none (ge_k g 45 r (p_x0 (g 45)) (g 54)) := by
  obtain ⟨⟨a1, a2, a3, a4⟩, b1, b2, b3, b4, b5, b6, b7, b8⟩ := h
  refine gq_ofB (l := [(0, .ref (ge_ad X.1 45)), (1, .ref (ge_ad X.1 25))]) (by decide) (Nat.le_of_ble_eq_true rfl) rfl ?_
  refine gq_aload_n (pc := 0) dX10_copyFrom_0 rfl ?_
  refine gq_getr (pc := 1) dX10_copyFrom_1 fl_X10_19_10 sh_25 rfl ?_
  refine gq_iconst (pc := 4) dX10_copyFrom_4 kc_0 ?_
  refine gq_aload_n (pc := 5) dX10_copyFrom_5 rfl ?_
  refine gq_getr (pc := 6) dX10_copyFrom_6 fl_X10_19_10 sh_45 rfl ?_
  refine gq_iconst (pc := 9) dX10_copyFrom_9 kc_0 ?_
  refine gq_bipush (pc := 10) dX10_copyFrom_10 kb_10 ?_
  refine gq_copy (pc := 12) dX10_copyFrom_12 cc_X10_57 sh_26 sh_46 kl_0 kl_0 kl_10 (by decide) (by decide) (by decide) (by decide) (by decide) (Nat.le_of_ble_eq_true rfl) ?_
  refine gq_aload_n (pc := 15) dX10_copyFrom_15 rfl ?_
  refine gq_getr (pc := 16) dX10_copyFrom_16 fl_X10_23_10 sh_25 rfl ?_
  refine gq_iconst (pc := 19) dX10_copyFrom_19 kc_0 ?_
  refine gq_aload_n (pc := 20) dX10_copyFrom_20 rfl ?_
  refine gq_getr (pc := 21) dX10_copyFrom_21 fl_X10_23_10 sh_45 rfl ?_
  refine gq_iconst (pc := 24) dX10_copyFrom_24 kc_0 ?_
  refine gq_bipush (pc := 25) dX10_copyFrom_25 kb_8 ?_
  refine gq_copy (pc := 27) dX10_copyFrom_27 cc_X10_57 sh_27 sh_47 kl_0 kl_0 kl_8 (by decide) (by decide) (by decide) (by decide) (by decide) (Nat.le_of_ble_eq_true rfl) ?_
  refine gq_aload_n (pc := 30) dX10_copyFrom_30 rfl ?_
  refine gq_getr (pc := 31) dX10_copyFrom_31 fl_X10_26_10 sh_25 rfl ?_
  refine gq_iconst (pc := 34) dX10_copyFrom_34 kc_0 ?_
  refine gq_aload_n (pc := 35) dX10_copyFrom_35 rfl ?_
  refine gq_getr (pc := 36) dX10_copyFrom_36 fl_X10_26_10 sh_45 rfl ?_
  refine gq_iconst (pc := 39) dX10_copyFrom_39 kc_0 ?_
  refine gq_bipush (pc := 40) dX10_copyFrom_40 kb_8 ?_
  refine gq_copy (pc := 42) dX10_copyFrom_42 cc_X10_57 sh_28 sh_48 kl_0 kl_0 kl_8 (by decide) (by decide) (by decide) (by decide) (by decide) (Nat.le_of_ble_eq_true rfl) ?_
  refine gq_aload_n (pc := 45) dX10_copyFrom_45 rfl ?_
  refine gq_getr (pc := 46) dX10_copyFrom_46 fl_X10_29_10 sh_25 rfl ?_
  refine gq_iconst (pc := 49) dX10_copyFrom_49 kc_0 ?_
  refine gq_aload_n (pc := 50) dX10_copyFrom_50 rfl ?_
  refine gq_getr (pc := 51) dX10_copyFrom_51 fl_X10_29_10 sh_45 rfl ?_
  refine gq_iconst (pc := 54) dX10_copyFrom_54 kc_0 ?_
  refine gq_bipush (pc := 55) dX10_copyFrom_55 kb_8 ?_
  refine gq_copy (pc := 57) dX10_copyFrom_57 cc_X10_57 sh_29 sh_49 kl_0 kl_0 kl_8 (by decide) (by decide) (by decide) (by decide) (by decide) (Nat.le_of_ble_eq_true rfl) ?_
  refine gq_aload_n (pc := 60) dX10_copyFrom_60 rfl ?_
  refine gq_getr (pc := 61) dX10_copyFrom_61 fl_X10_32_10 sh_25 rfl ?_
  refine gq_iconst (pc := 64) dX10_copyFrom_64 kc_0 ?_
  refine gq_aload_n (pc := 65) dX10_copyFrom_65 rfl ?_
  refine gq_getr (pc := 66) dX10_copyFrom_66 fl_X10_32_10 sh_45 rfl ?_
  refine gq_iconst (pc := 69) dX10_copyFrom_69 kc_0 ?_
  refine gq_bipush (pc := 70) dX10_copyFrom_70 kb_8 ?_
  refine gq_copy (pc := 72) dX10_copyFrom_72 cc_X10_57 sh_30 sh_50 kl_0 kl_0 kl_8 (by decide) (by decide) (by decide) (by decide) (by decide) (Nat.le_of_ble_eq_true rfl) ?_
  refine gq_aload_n (pc := 75) dX10_copyFrom_75 rfl ?_
  refine gq_getr (pc := 76) dX10_copyFrom_76 fl_X10_35_10 sh_25 rfl ?_
  refine gq_iconst (pc := 79) dX10_copyFrom_79 kc_0 ?_
  refine gq_aload_n (pc := 80) dX10_copyFrom_80 rfl ?_
  refine gq_getr (pc := 81) dX10_copyFrom_81 fl_X10_35_10 sh_45 rfl ?_
  refine gq_iconst (pc := 84) dX10_copyFrom_84 kc_0 ?_
  refine gq_bipush (pc := 85) dX10_copyFrom_85 kb_12 ?_
  refine gq_copy (pc := 87) dX10_copyFrom_87 cc_X10_57 sh_31 sh_51 kl_0 kl_0 kl_12 (by decide) (by decide) (by decide) (by decide) (by decide) (Nat.le_of_ble_eq_true rfl) ?_
  refine gq_aload_n (pc := 90) dX10_copyFrom_90 rfl ?_
  refine gq_getr (pc := 91) dX10_copyFrom_91 fl_X10_38_10 sh_25 rfl ?_
  refine gq_iconst (pc := 94) dX10_copyFrom_94 kc_0 ?_
  refine gq_aload_n (pc := 95) dX10_copyFrom_95 rfl ?_
  refine gq_getr (pc := 96) dX10_copyFrom_96 fl_X10_38_10 sh_45 rfl ?_
  refine gq_iconst (pc := 99) dX10_copyFrom_99 kc_0 ?_
  refine gq_bipush (pc := 100) dX10_copyFrom_100 kb_6 ?_
  refine gq_copy (pc := 102) dX10_copyFrom_102 cc_X10_57 sh_32 sh_52 kl_0 kl_0 kl_6 (by decide) (by decide) (by decide) (by decide) (by decide) (Nat.le_of_ble_eq_true rfl) ?_
  refine gq_aload_n (pc := 105) dX10_copyFrom_105 rfl ?_
  refine gq_getr (pc := 106) dX10_copyFrom_106 fl_X10_41_10 sh_25 rfl ?_
  refine gq_iconst (pc := 109) dX10_copyFrom_109 kc_0 ?_
  refine gq_aload_n (pc := 110) dX10_copyFrom_110 rfl ?_
  refine gq_getr (pc := 111) dX10_copyFrom_111 fl_X10_41_10 sh_45 rfl ?_
  refine gq_iconst (pc := 114) dX10_copyFrom_114 kc_0 ?_
  refine gq_bipush (pc := 115) dX10_copyFrom_115 kb_6 ?_
  refine gq_copy (pc := 117) dX10_copyFrom_117 cc_X10_57 sh_33 sh_53 kl_0 kl_0 kl_6 (by decide) (by decide) (by decide) (by decide) (by decide) (Nat.le_of_ble_eq_true rfl) ?_
  refine gq_aload_n (pc := 120) dX10_copyFrom_120 rfl ?_
  refine gq_aload_n (pc := 121) dX10_copyFrom_121 rfl ?_
  refine gq_geti (pc := 122) dX10_copyFrom_122 fl_X10_63_10 sh_25 rfl (by unfold ge_Z; omega) ?_
  refine gq_puti (pc := 125) dX10_copyFrom_125 fp_X10_63_10 sh_45 rfl ?_
  refine gq_aload_n (pc := 128) dX10_copyFrom_128 rfl ?_
  refine gq_aload_n (pc := 129) dX10_copyFrom_129 rfl ?_
  refine gq_geti (pc := 130) dX10_copyFrom_130 fl_X10_66_10 sh_25 rfl (by unfold ge_Z; omega) ?_
  refine gq_puti (pc := 133) dX10_copyFrom_133 fp_X10_66_10 sh_45 rfl ?_
  refine gq_aload_n (pc := 136) dX10_copyFrom_136 rfl ?_
  refine gq_aload_n (pc := 137) dX10_copyFrom_137 rfl ?_
  refine gq_geti (pc := 138) dX10_copyFrom_138 fl_X10_69_10 sh_25 rfl (by unfold ge_Z; omega) ?_
  refine gq_puti (pc := 141) dX10_copyFrom_141 fp_X10_69_10 sh_45 rfl ?_
  refine gq_aload_n (pc := 144) dX10_copyFrom_144 rfl ?_
  refine gq_aload_n (pc := 145) dX10_copyFrom_145 rfl ?_
  refine gq_geti (pc := 146) dX10_copyFrom_146 fl_X10_47_10 sh_25 rfl (by unfold ge_Z; omega) ?_
  refine gq_puti (pc := 149) dX10_copyFrom_149 fp_X10_47_10 sh_45 rfl ?_
  refine gq_aload_n (pc := 152) dX10_copyFrom_152 rfl ?_
  refine gq_iconst (pc := 153) dX10_copyFrom_153 kc_0 ?_
  refine gq_puti (pc := 154) dX10_copyFrom_154 fp_X10_72_10 sh_45 rfl ?_
  refine gq_aload_n (pc := 157) dX10_copyFrom_157 rfl ?_
  refine gq_iconst (pc := 158) dX10_copyFrom_158 kc_m1 ?_
  refine gq_puti (pc := 159) dX10_copyFrom_159 fp_X10_51_10 sh_45 rfl ?_
  refine gq_aload_n (pc := 162) dX10_copyFrom_162 rfl ?_
  refine gq_iconst (pc := 163) dX10_copyFrom_163 kc_0 ?_
  refine gq_puti (pc := 164) dX10_copyFrom_164 fp_X10_75_10 sh_45 rfl ?_
  refine gq_aload_n (pc := 167) dX10_copyFrom_167 rfl ?_
  refine gq_iconst (pc := 168) dX10_copyFrom_168 kc_m1 ?_
  refine gq_puti (pc := 169) dX10_copyFrom_169 fp_X10_54_10 sh_45 rfl ?_
  refine gq_ag (g' := ge_k g 45 r (p_x0 (g 45)) (g 54)) (ge_k_ag (by decide) ?_ ?_ ?_ ?_ ?_ ?_ ?_ ?_ ?_ ?_ ?_) (gq_vret (pc := 172) rfl dX10_copyFrom_172 ⟨rfl, rfl⟩)
  · intro k hk; rw [ge_k_0]; rcases (by omega : k = 11 ∨ k = 12 ∨ k = 13 ∨ k = 14 ∨ k = 15 ∨ k = 16 ∨ k = 17 ∨ k = 18 ∨ k < 11) with rfl | rfl | rfl | rfl | rfl | rfl | rfl | rfl | h <;> first | exact a1 | exact a2 | exact a3 | exact a4 | rfl | (simp [ge_up, ge_row, upd, p_x0, show k ≠ 11 by omega, show k ≠ 12 by omega, show k ≠ 13 by omega, show k ≠ 14 by omega, show k ≠ 15 by omega, show k ≠ 16 by omega, show k ≠ 17 by omega, show k ≠ 18 by omega])
  · intro k hk; rw [← b1 k hk]; simp [ge_up, ge_row, va_cpy, hk]
  · intro k hk; rw [← b2 k hk]; simp [ge_up, ge_row, va_cpy, hk]
  · intro k hk; rw [← b3 k hk]; simp [ge_up, ge_row, va_cpy, hk]
  · intro k hk; rw [← b4 k hk]; simp [ge_up, ge_row, va_cpy, hk]
  · intro k hk; rw [← b5 k hk]; simp [ge_up, ge_row, va_cpy, hk]
  · intro k hk; rw [← b6 k hk]; simp [ge_up, ge_row, va_cpy, hk]
  · intro k hk; rw [← b7 k hk]; simp [ge_up, ge_row, va_cpy, hk]
  · intro k hk; rw [← b8 k hk]; simp [ge_up, ge_row, va_cpy, hk]
  · intro k hk; simp [ge_up, ge_row]
  · intro q hq; funext k; simp [ge_up, ge_row, show q ≠ 45 by omega, show q ≠ 46 by omega, show q ≠ 47 by omega, show q ≠ 48 by omega, show q ≠ 49 by omega, show q ≠ 50 by omega, show q ≠ 51 by omega, show q ≠ 52 by omega, show q ≠ 53 by omega]
set_option maxHeartbeats 2000000 in
theorem k_copy_25_45 (h : ge_wr g 45 r) : ge_N X ge_SH YX10_copyFrom 1 [.ref (ge_ad X.1 25), .ref (ge_ad X.1 45)] g none (ge_k g 25 r (p_x0 (g 25)) (g 34)) := by
  obtain ⟨⟨a1, a2, a3, a4⟩, b1, b2, b3, b4, b5, b6, b7, b8⟩ := h
  refine gq_ofB (l := [(0, .ref (ge_ad X.1 25)), (1, .ref (ge_ad X.1 45))]) (by decide) (Nat.le_of_ble_eq_true rfl) rfl ?_
  refine gq_aload_n (pc := 0) dX10_copyFrom_0 rfl ?_
  refine gq_getr (pc := 1) dX10_copyFrom_1 fl_X10_19_10 sh_45 rfl ?_
  refine gq_iconst (pc := 4) dX10_copyFrom_4 kc_0 ?_
  refine gq_aload_n (pc := 5) dX10_copyFrom_5 rfl ?_
  refine gq_getr (pc := 6) dX10_copyFrom_6 fl_X10_19_10 sh_25 rfl ?_
  refine gq_iconst (pc := 9) dX10_copyFrom_9 kc_0 ?_
  refine gq_bipush (pc := 10) dX10_copyFrom_10 kb_10 ?_
  refine gq_copy (pc := 12) dX10_copyFrom_12 cc_X10_57 sh_46 sh_26 kl_0 kl_0 kl_10 (by decide) (by decide) (by decide) (by decide) (by decide) (Nat.le_of_ble_eq_true rfl) ?_
  refine gq_aload_n (pc := 15) dX10_copyFrom_15 rfl ?_
  refine gq_getr (pc := 16) dX10_copyFrom_16 fl_X10_23_10 sh_45 rfl ?_
  refine gq_iconst (pc := 19) dX10_copyFrom_19 kc_0 ?_
  refine gq_aload_n (pc := 20) dX10_copyFrom_20 rfl ?_
  refine gq_getr (pc := 21) dX10_copyFrom_21 fl_X10_23_10 sh_25 rfl ?_
  refine gq_iconst (pc := 24) dX10_copyFrom_24 kc_0 ?_
  refine gq_bipush (pc := 25) dX10_copyFrom_25 kb_8 ?_
  refine gq_copy (pc := 27) dX10_copyFrom_27 cc_X10_57 sh_47 sh_27 kl_0 kl_0 kl_8 (by decide) (by decide) (by decide) (by decide) (by decide) (Nat.le_of_ble_eq_true rfl) ?_
  refine gq_aload_n (pc := 30) dX10_copyFrom_30 rfl ?_
  refine gq_getr (pc := 31) dX10_copyFrom_31 fl_X10_26_10 sh_45 rfl ?_
  refine gq_iconst (pc := 34) dX10_copyFrom_34 kc_0 ?_
  refine gq_aload_n (pc := 35) dX10_copyFrom_35 rfl ?_
  refine gq_getr (pc := 36) dX10_copyFrom_36 fl_X10_26_10 sh_25 rfl ?_
  refine gq_iconst (pc := 39) dX10_copyFrom_39 kc_0 ?_
  refine gq_bipush (pc := 40) dX10_copyFrom_40 kb_8 ?_
  refine gq_copy (pc := 42) dX10_copyFrom_42 cc_X10_57 sh_48 sh_28 kl_0 kl_0 kl_8 (by decide) (by decide) (by decide) (by decide) (by decide) (Nat.le_of_ble_eq_true rfl) ?_
  refine gq_aload_n (pc := 45) dX10_copyFrom_45 rfl ?_
  refine gq_getr (pc := 46) dX10_copyFrom_46 fl_X10_29_10 sh_45 rfl ?_
  refine gq_iconst (pc := 49) dX10_copyFrom_49 kc_0 ?_
  refine gq_aload_n (pc := 50) dX10_copyFrom_50 rfl ?_
  refine gq_getr (pc := 51) dX10_copyFrom_51 fl_X10_29_10 sh_25 rfl ?_
  refine gq_iconst (pc := 54) dX10_copyFrom_54 kc_0 ?_
  refine gq_bipush (pc := 55) dX10_copyFrom_55 kb_8 ?_
  refine gq_copy (pc := 57) dX10_copyFrom_57 cc_X10_57 sh_49 sh_29 kl_0 kl_0 kl_8 (by decide) (by decide) (by decide) (by decide) (by decide) (Nat.le_of_ble_eq_true rfl) ?_
  refine gq_aload_n (pc := 60) dX10_copyFrom_60 rfl ?_
  refine gq_getr (pc := 61) dX10_copyFrom_61 fl_X10_32_10 sh_45 rfl ?_
  refine gq_iconst (pc := 64) dX10_copyFrom_64 kc_0 ?_
  refine gq_aload_n (pc := 65) dX10_copyFrom_65 rfl ?_
  refine gq_getr (pc := 66) dX10_copyFrom_66 fl_X10_32_10 sh_25 rfl ?_
  refine gq_iconst (pc := 69) dX10_copyFrom_69 kc_0 ?_
  refine gq_bipush (pc := 70) dX10_copyFrom_70 kb_8 ?_
  refine gq_copy (pc := 72) dX10_copyFrom_72 cc_X10_57 sh_50 sh_30 kl_0 kl_0 kl_8 (by decide) (by decide) (by decide) (by decide) (by decide) (Nat.le_of_ble_eq_true rfl) ?_
  refine gq_aload_n (pc := 75) dX10_copyFrom_75 rfl ?_
  refine gq_getr (pc := 76) dX10_copyFrom_76 fl_X10_35_10 sh_45 rfl ?_
  refine gq_iconst (pc := 79) dX10_copyFrom_79 kc_0 ?_
  refine gq_aload_n (pc := 80) dX10_copyFrom_80 rfl ?_
  refine gq_getr (pc := 81) dX10_copyFrom_81 fl_X10_35_10 sh_25 rfl ?_
  refine gq_iconst (pc := 84) dX10_copyFrom_84 kc_0 ?_
  refine gq_bipush (pc := 85) dX10_copyFrom_85 kb_12 ?_
  refine gq_copy (pc := 87) dX10_copyFrom_87 cc_X10_57 sh_51 sh_31 kl_0 kl_0 kl_12 (by decide) (by decide) (by decide) (by decide) (by decide) (Nat.le_of_ble_eq_true rfl) ?_
  refine gq_aload_n (pc := 90) dX10_copyFrom_90 rfl ?_
  refine gq_getr (pc := 91) dX10_copyFrom_91 fl_X10_38_10 sh_45 rfl ?_
  refine gq_iconst (pc := 94) dX10_copyFrom_94 kc_0 ?_
  refine gq_aload_n (pc := 95) dX10_copyFrom_95 rfl ?_
  refine gq_getr (pc := 96) dX10_copyFrom_96 fl_X10_38_10 sh_25 rfl ?_
  refine gq_iconst (pc := 99) dX10_copyFrom_99 kc_0 ?_
  refine gq_bipush (pc := 100) dX10_copyFrom_100 kb_6 ?_
  refine gq_copy (pc := 102) dX10_copyFrom_102 cc_X10_57 sh_52 sh_32 kl_0 kl_0 kl_6 (by decide) (by decide) (by decide) (by decide) (by decide) (Nat.le_of_ble_eq_true rfl) ?_
  refine gq_aload_n (pc := 105) dX10_copyFrom_105 rfl ?_
  refine gq_getr (pc := 106) dX10_copyFrom_106 fl_X10_41_10 sh_45 rfl ?_
  refine gq_iconst (pc := 109) dX10_copyFrom_109 kc_0 ?_
  refine gq_aload_n (pc := 110) dX10_copyFrom_110 rfl ?_
  refine gq_getr (pc := 111) dX10_copyFrom_111 fl_X10_41_10 sh_25 rfl ?_
  refine gq_iconst (pc := 114) dX10_copyFrom_114 kc_0 ?_
  refine gq_bipush (pc := 115) dX10_copyFrom_115 kb_6 ?_
  refine gq_copy (pc := 117) dX10_copyFrom_117 cc_X10_57 sh_53 sh_33 kl_0 kl_0 kl_6 (by decide) (by decide) (by decide) (by decide) (by decide) (Nat.le_of_ble_eq_true rfl) ?_
  refine gq_aload_n (pc := 120) dX10_copyFrom_120 rfl ?_
  refine gq_aload_n (pc := 121) dX10_copyFrom_121 rfl ?_
  refine gq_geti (pc := 122) dX10_copyFrom_122 fl_X10_63_10 sh_45 rfl (by unfold ge_Z; omega) ?_
  refine gq_puti (pc := 125) dX10_copyFrom_125 fp_X10_63_10 sh_25 rfl ?_
  refine gq_aload_n (pc := 128) dX10_copyFrom_128 rfl ?_
  refine gq_aload_n (pc := 129) dX10_copyFrom_129 rfl ?_
  refine gq_geti (pc := 130) dX10_copyFrom_130 fl_X10_66_10 sh_45 rfl (by unfold ge_Z; omega) ?_
  refine gq_puti (pc := 133) dX10_copyFrom_133 fp_X10_66_10 sh_25 rfl ?_
  refine gq_aload_n (pc := 136) dX10_copyFrom_136 rfl ?_
  refine gq_aload_n (pc := 137) dX10_copyFrom_137 rfl ?_
  refine gq_geti (pc := 138) dX10_copyFrom_138 fl_X10_69_10 sh_45 rfl (by unfold ge_Z; omega) ?_
  refine gq_puti (pc := 141) dX10_copyFrom_141 fp_X10_69_10 sh_25 rfl ?_
  refine gq_aload_n (pc := 144) dX10_copyFrom_144 rfl ?_
  refine gq_aload_n (pc := 145) dX10_copyFrom_145 rfl ?_
  refine gq_geti (pc := 146) dX10_copyFrom_146 fl_X10_47_10 sh_45 rfl (by unfold ge_Z; omega) ?_
  refine gq_puti (pc := 149) dX10_copyFrom_149 fp_X10_47_10 sh_25 rfl ?_
  refine gq_aload_n (pc := 152) dX10_copyFrom_152 rfl ?_
  refine gq_iconst (pc := 153) dX10_copyFrom_153 kc_0 ?_
  refine gq_puti (pc := 154) dX10_copyFrom_154 fp_X10_72_10 sh_25 rfl ?_
  refine gq_aload_n (pc := 157) dX10_copyFrom_157 rfl ?_
  refine gq_iconst (pc := 158) dX10_copyFrom_158 kc_m1 ?_
  refine gq_puti (pc := 159) dX10_copyFrom_159 fp_X10_51_10 sh_25 rfl ?_
  refine gq_aload_n (pc := 162) dX10_copyFrom_162 rfl ?_
  refine gq_iconst (pc := 163) dX10_copyFrom_163 kc_0 ?_
  refine gq_puti (pc := 164) dX10_copyFrom_164 fp_X10_75_10 sh_25 rfl ?_
  refine gq_aload_n (pc := 167) dX10_copyFrom_167 rfl ?_
  refine gq_iconst (pc := 168) dX10_copyFrom_168 kc_m1 ?_
  refine gq_puti (pc := 169) dX10_copyFrom_169 fp_X10_54_10 sh_25 rfl ?_
  refine gq_ag (g' := ge_k g 25 r (p_x0 (g 25)) (g 34)) (ge_k_ag (by decide) ?_ ?_ ?_ ?_ ?_ ?_ ?_ ?_ ?_ ?_ ?_) (gq_vret (pc := 172) rfl dX10_copyFrom_172 ⟨rfl, rfl⟩)
  · intro k hk; rw [ge_k_0]; rcases (by omega : k = 11 ∨ k = 12 ∨ k = 13 ∨ k = 14 ∨ k = 15 ∨ k = 16 ∨ k = 17 ∨ k = 18 ∨ k < 11) with rfl | rfl | rfl | rfl | rfl | rfl | rfl | rfl | h <;> first | exact a1 | exact a2 | exact a3 | exact a4 | rfl | (simp [ge_up, ge_row, upd, p_x0, show k ≠ 11 by omega, show k ≠ 12 by omega, show k ≠ 13 by omega, show k ≠ 14 by omega, show k ≠ 15 by omega, show k ≠ 16 by omega, show k ≠ 17 by omega, show k ≠ 18 by omega])
  · intro k hk; rw [← b1 k hk]; simp [ge_up, ge_row, va_cpy, hk]
  · intro k hk; rw [← b2 k hk]; simp [ge_up, ge_row, va_cpy, hk]
  · intro k hk; rw [← b3 k hk]; simp [ge_up, ge_row, va_cpy, hk]
  · intro k hk; rw [← b4 k hk]; simp [ge_up, ge_row, va_cpy, hk]
  · intro k hk; rw [← b5 k hk]; simp [ge_up, ge_row, va_cpy, hk]
  · intro k hk; rw [← b6 k hk]; simp [ge_up, ge_row, va_cpy, hk]
  · intro k hk; rw [← b7 k hk]; simp [ge_up, ge_row, va_cpy, hk]
  · intro k hk; rw [← b8 k hk]; simp [ge_up, ge_row, va_cpy, hk]
  · intro k hk; simp [ge_up, ge_row]
  · intro q hq; funext k; simp [ge_up, ge_row, show q ≠ 25 by omega, show q ≠ 26 by omega, show q ≠ 27 by omega, show q ≠ 28 by omega, show q ≠ 29 by omega, show q ≠ 30 by omega, show q ≠ 31 by omega, show q ≠ 32 by omega, show q ≠ 33 by omega]
end W9
