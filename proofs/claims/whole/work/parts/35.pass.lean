section W6
variable {X : ge_X} {g : ge_G} {r x hb : Nat → Int32} {c : Nat}
/-- an eye is worn on one side of one alone -/
def p_uq (V : Nat) (r : Nat → Int32) : Prop := ∀ w w' s s', w < V → w' < V → s < 2 → s' < 2 → p_o r w s = p_o r w' s' → p_o r w s = -1 ∨ (w = w' ∧ s = s')
theorem p_sk_no (r : Nat → Int32) (e : Int32) : ∀ m i, i + m < 2 ^ 31 → p_sk r e m i = -1 → ∀ j, i ≤ j → j < i + m → ¬ p_o r (j / 2) (j % 2) = e := by
  intro m
  induction m with
  | zero => intro i _ _ j h1 h2; omega
  | succ m ih =>
    intro i hm he j h1 h2
    rw [p_sk_s] at he
    by_cases h : p_o r (i / 2) (i % 2) = e
    · rw [if_pos h] at he
      exact absurd (show nI i < 0 by rw [he]; decide) (nI_pos (by omega))
    · rw [if_neg h] at he
      by_cases hj : j = i
      · rw [hj]; exact h
      · exact ih (i + 1) (by omega) he j (by omega) (by omega)
theorem p_sk_at {V w s j : Nat} (hV : V ≤ 6) (hu : p_uq V r) (hw : w < V) (hs : s < 2) (hj : j < 8) (h : p_o r w s = nI j) : p_sk r (nI j) (2 * V) 0 = nI (2 * w + s) := by
  rcases p_sk_in r (nI j) (2 * V) 0 with q | ⟨t, -, t2, t3, t4⟩
  · exact absurd (by rw [show (2 * w + s) / 2 = w by omega, show (2 * w + s) % 2 = s by omega]; exact h) (p_sk_no r (nI j) (2 * V) 0 (by omega) q (2 * w + s) (by omega) (by omega))
  · rcases hu (t / 2) w (t % 2) s (by omega) hw (by omega) hs (t4.trans h.symm) with z | ⟨z1, z2⟩
    · rw [t4] at z
      exact absurd (show nI j < 0 by rw [z]; decide) (nI_pos (by omega))
    · rw [t3, show t = 2 * w + s by omega]
theorem p_tf_at {V w s j : Nat} (hV : V ≤ 6) (hu : p_uq V r) (hw : w < V) (hs : s < 2) (hj : j < 8) (h : p_o r w s = nI j) : p_tf r (nI j) V = p_uo r w s (-1) := by
  unfold p_tf
  rw [p_sk_at hV hu hw hs hj h, if_neg (fun z => absurd (show nI j < 0 by rw [z]; decide) (nI_pos (by omega))), if_neg (nI_pos (by omega)), p_n_nI (by omega), show (2 * w + s) / 2 = w by omega, show (2 * w + s) % 2 = s by omega]
theorem p_heeded_side {w : Nat} (h : ¬ p_heeded r w = -1) : p_o r w 0 = p_heeded r w ∨ p_o r w 1 = p_heeded r w := by
  unfold p_heeded
  repeat' split
  · exact Or.inr rfl
  · exact Or.inl rfl
  · exact Or.inl rfl
  · exact Or.inr rfl
theorem p_take_at {V w j : Nat} (hV : V ≤ 6) (hu : p_uq V r) (hw : w < V) (hj : j < 8) (h : p_o r w 0 = nI j ∨ p_o r w 1 = nI j) : p_uo (p_tf r (nI j) V) w 2 20 = p_take r w j := by
  unfold p_take
  by_cases h0 : p_o r w 0 = nI j
  · rw [if_pos h0, p_tf_at hV hu hw (by omega) hj h0]
  · rw [if_neg h0, p_tf_at hV hu hw (by omega) hj (h.resolve_left h0)]
def p_xt (x : Nat → Int32) (w : Int32) : Nat → Int32 := if x 15 = 0 then upd (upd x 16 w) 15 (upd x 16 w 15 + 1) else upd x 15 (x 15 + 1)
def p_xf (x r : Nat → Int32) (w : Nat) : Nat → Int32 := if p_heeded r w < 0 then x else if p_left r w (p_n (p_heeded r w)) = 0 then p_xt (upd x 17 (x 17 + (p_o r w 2 - p_left r w (p_n (p_heeded r w))))) (nI w) else upd x 17 (x 17 + (p_o r w 2 - p_left r w (p_n (p_heeded r w))))
def p_hf (r : Nat → Int32) (w : Nat) : Int32 := if p_heeded r w < 0 then 10 else p_shows r (p_n (p_heeded r w))
theorem p_ssb (a b : Int32) : a - (a - b) = b := by
  apply Int32.toBitVec_inj.mp
  rw [Int32.toBitVec_sub, Int32.toBitVec_sub]
  bv_omega
theorem p_min_left (r : Nat → Int32) (w e : Nat) : p_o r w 2 - p_min (p_o r w 2) (p_less r e) = p_left r w e ∧ p_min (p_o r w 2) (p_less r e) = p_o r w 2 - p_left r w e := by
  unfold p_min p_left
  by_cases h : p_less r e < p_o r w 2
  · rw [if_pos h, if_neg (Int32.not_le.mpr h)]
    refine ⟨rfl, ?_⟩
    rw [p_ssb]
  · rw [if_neg h, if_pos (Int32.not_lt.mp h)]
    exact ⟨Int32.sub_self _, by rw [Int32.sub_zero]⟩
theorem p_heavy_of {r' : Nat → Int32} {e : Nat} (h0 : r' 0 = r 0) (h : p_e r' e 0 = p_e r e 0) : p_heavy r' e = p_heavy r e := by unfold p_heavy; rw [h0, h]
theorem p_o_look2 {w e : Nat} (b0 : p_eo (p_o (p_look1 r w e) w 0)) (b1 : p_eo (p_o (p_wear1 (p_look1 r w e) w) w 1)) : p_o (p_look2 r w e) w 2 = p_left r w e := by
  show p_o (p_wear (p_wear (p_look1 r w e) (p_o (p_look1 r w e) w 0)) (p_o (p_wear1 (p_look1 r w e) w) w 1)) w 2 = _
  rw [p_o_wear b1, p_o_wear b0]
  unfold p_look1
  rw [p_o_uo _ _ _ _ _ _ (by omega) (by omega), if_pos ⟨rfl, rfl⟩]
set_option maxHeartbeats 400000 in
theorem k_takeOut_25 {w e : Int32} {i V : Nat} (hV : V ≤ 6) (e3 : r 3 = nI V) (hw : w = nI i) (hi : i < 6) : ge_N X ge_SH YX10_takeOut 2 [.ref (ge_ad X.1 25), .int w, .int e] (ge_k g 25 r x hb) none (ge_k g 25 (p_uo (p_tf r e V) i 2 20) (p_xt x w) hb) := by
  refine gq_ofB (l := [(0, .ref (ge_ad X.1 25)), (1, .int w), (2, .int e)]) (by decide) (Nat.le_of_ble_eq_true rfl) rfl ?_
  refine gq_aload_n (pc := 0) dX10_takeOut_0 rfl ?_
  refine gq_iload_n (pc := 1) dX10_takeOut_1 rfl ?_
  refine gq_rV1v (pc := 2) dX10_takeOut_2 cv_X10_78 sh_25 (k_tf_25 hV e3) ⟨by decide, by decide⟩ rfl rfl (Nat.le_of_ble_eq_true rfl) ?_
  refine gq_aload_n (pc := 5) dX10_takeOut_5 rfl ?_
  refine gq_getr (pc := 6) dX10_takeOut_6 fl_X10_38_10 sh_25 rfl ?_
  refine gq_iload_n (pc := 9) dX10_takeOut_9 rfl ?_
  refine gq_bipush (pc := 10) dX10_takeOut_10 kb_20 ?_
  refine kq_ast7 (pw := 25) (pc := 12) (by decide) dX10_takeOut_12 hw (by first | decide | omega) ?_
  refine gq_aload_n (pc := 13) dX10_takeOut_13 rfl ?_
  refine kq_get15 (pw := 25) (pc := 14) (by decide) dX10_takeOut_14 fl_X10_72_10 ?_
  refine gq_if_ne (pc := 17) 25 dX10_takeOut_17 (by decide) (fun h_17 => ?_) (fun h_17 => ?_)
  · refine gq_aload_n (pc := 25) dX10_takeOut_25 rfl ?_
    refine gq_dup (pc := 26) dX10_takeOut_26 rfl ?_
    refine kq_get15 (pw := 25) (pc := 27) (by decide) dX10_takeOut_27 fl_X10_72_10 ?_
    refine gq_iconst (pc := 30) dX10_takeOut_30 kc_1 ?_
    refine gq_iadd (pc := 31) dX10_takeOut_31 ?_
    refine kq_put15 (pw := 25) (pc := 32) (by decide) dX10_takeOut_32 fp_X10_72_10 ?_
    exact gq_vret (pc := 35) rfl dX10_takeOut_35 ⟨rfl, by unfold p_xt; first | rw [if_pos h_17] | rw [if_neg h_17]⟩
  · refine gq_aload_n (pc := 20) dX10_takeOut_20 rfl ?_
    refine gq_iload_n (pc := 21) dX10_takeOut_21 rfl ?_
    refine kq_put16 (pw := 25) (pc := 22) (by decide) dX10_takeOut_22 fp_X10_51_10 ?_
    refine gq_aload_n (pc := 25) dX10_takeOut_25 rfl ?_
    refine gq_dup (pc := 26) dX10_takeOut_26 rfl ?_
    refine kq_get15 (pw := 25) (pc := 27) (by decide) dX10_takeOut_27 fl_X10_72_10 ?_
    refine gq_iconst (pc := 30) dX10_takeOut_30 kc_1 ?_
    refine gq_iadd (pc := 31) dX10_takeOut_31 ?_
    refine kq_put15 (pw := 25) (pc := 32) (by decide) dX10_takeOut_32 fp_X10_72_10 ?_
    exact gq_vret (pc := 35) rfl dX10_takeOut_35 ⟨rfl, by unfold p_xt; first | rw [if_pos h_17] | rw [if_neg h_17]⟩
set_option maxHeartbeats 2000000 in
theorem k_pass_25 {w : Int32} {i V : Nat} (hI : p_inv c r) (hL : c_lw g r) (hV : V ≤ 6) (e3 : r 3 = nI V) (hw : w = nI i) (hiV : i < V) (hu : p_uq V r) (hsp : ¬ w = x 18) (h0 : p_e1 (p_o r i 0)) (h1 : p_e1 (p_o r i 1)) : ge_N X ge_SH YX10_passFor 4 [.ref (ge_ad X.1 25), .int w] (ge_k g 25 r x hb) none (ge_k g 25 (p_one r i) (p_xf x r i) (upd hb i (p_hf r i))) := by
  refine gq_ofB (l := [(0, .ref (ge_ad X.1 25)), (1, .int w)]) (by decide) (Nat.le_of_ble_eq_true rfl) rfl ?_
  refine gq_aload_n (pc := 0) dX10_passFor_0 rfl ?_
  refine gq_iload_n (pc := 1) dX10_passFor_1 rfl ?_
  refine gq_rV1i (pc := 2) dX10_passFor_2 cv_X10_111 sh_25 (k_heed_25 hI hL hw (by omega) h0 h1) ⟨by decide, by decide⟩ rfl rfl (Nat.le_of_ble_eq_true rfl) ?_
  refine gq_istore_n (pc := 5) (l' := [(2, _), (0, _), (1, _)]) dX10_passFor_5 (by decide) rfl ?_
  refine gq_iload_n (pc := 6) dX10_passFor_6 rfl ?_
  refine gq_iconst (pc := 7) dX10_passFor_7 kc_m1 ?_
  refine gq_ic_ne (pc := 8) 39 dX10_passFor_8 (by decide) (fun h_8 => ?_) (fun h_8 => ?_)
  · obtain ⟨q0, q1⟩ := p_e1_n (p_heeded_e1 h0 h1) h_8
    obtain ⟨j, hj⟩ : ∃ j, j = (p_n (p_heeded r i)) := ⟨_, rfl⟩
    rw [← hj] at q0 q1
    obtain ⟨t, ht, et⟩ := p_shows_in hI q1
    have et2 : p_shows r j = nI (p_n (p_shows r j)) := by rw [et, p_n_nI (by omega)]
    have ht2 : p_n (p_shows r j) < 10 := by rw [et, p_n_nI (by omega)]; exact ht
    obtain ⟨S, hS⟩ : ∃ S, S = p_o r i 3 ||| ((1 : Int32) <<< (p_shows r j &&& 31)) := ⟨_, rfl⟩
    have hI1 : p_inv c (p_uo r i 3 S) := p_inv_uo hI (by omega) (by omega) ⟨fun z => by omega, fun z => by omega, fun _ => by rw [hS, et]; obtain ⟨q, hq, eq⟩ := (hI.2.2.2.2.2.1 i (by omega)).2; rw [eq]; exact p_seen_in hq ht⟩
    have hb2 : p_o (p_uo r i 3 S) i 2 = p_o r i 2 := by rw [p_o_uo _ _ _ _ _ _ (by omega) (by omega), if_neg (by omega)]
    have hh : p_heavy (p_uo r i 3 S) j = p_heavy r j := p_heavy_of (p_lo_uo _ _ _ _ _ (by omega)) (p_e_uo _ _ _ _ _ _ q1 (by omega))
    have hd : (p_uo r i 3 S) (8 + p_n (p_shows r j)) = r (8 + p_n (p_shows r j)) := p_lo_uo _ _ _ _ _ (by omega)
    obtain ⟨m1, m2⟩ := p_min_left r i j
    have b0 : p_e1 (p_o (p_look1 r i j) i 0) := by rw [p_o_look1 i j 0 (by omega)]; exact h0
    have b1 : p_e1 (p_o (p_wear1 (p_look1 r i j) i) i 1) := by unfold p_wear1; rw [p_o_wear (p_e1_eo b0), p_o_look1 i j 1 (by omega)]; exact h1
    have a1 := p_inv_look1 hI (w := i) (by omega) q1
    have a2 : p_inv c (p_wear1 (p_look1 r i j) i) := p_inv_wear a1 (p_e1_eo b0)
    obtain ⟨a3, a4⟩ := p_inv_look2 hI (w := i) (by omega) q1 (p_e1_eo h0) (p_e1_eo h1)
    have hneg : ¬ p_heeded r i < 0 := fun z => h_8 ((p_e1_m (p_heeded_e1 h0 h1)).mp z)
    have hl2 := p_o_look2 (r := r) (w := i) (e := j) (p_e1_eo b0) (p_e1_eo b1)
    have hq3 : (p_look2 r i j) 3 = nI V := by rw [p_lo_look2 3 (by omega)]; exact e3
    have hu2 : p_uq V (p_look2 r i j) := fun w1 w2 s1 s2 k1 k2 k3 k4 k5 => by rw [a4 s1 k3 w1] at k5 ⊢; rw [a4 s2 k4 w2] at k5; exact hu w1 w2 s1 s2 k1 k2 k3 k4 k5
    have hsd : p_o (p_look2 r i j) i 0 = nI j ∨ p_o (p_look2 r i j) i 1 = nI j := by rw [a4 0 (by omega) i, a4 1 (by omega) i, ← q0]; exact p_heeded_side h_8
    refine gq_aload_n (pc := 39) dX10_passFor_39 rfl ?_
    refine gq_iload_n (pc := 40) dX10_passFor_40 rfl ?_
    refine gq_rV1i (pc := 41) dX10_passFor_41 cv_X10_105 sh_25 (k_thing_25 hI hL q0 q1) ⟨by decide, by decide⟩ rfl rfl (Nat.le_of_ble_eq_true rfl) ?_
    refine gq_istore_n (pc := 44) (l' := [(3, _), (2, _), (0, _), (1, _)]) dX10_passFor_44 (by decide) rfl ?_
    refine gq_aload_n (pc := 45) dX10_passFor_45 rfl ?_
    refine gq_getr (pc := 46) dX10_passFor_46 fl_X10_44_10 sh_25 rfl ?_
    refine gq_iload_n (pc := 49) dX10_passFor_49 rfl ?_
    refine gq_iload_n (pc := 50) dX10_passFor_50 rfl ?_
    refine kq_ast9 (pw := 25) (pc := 51) (by decide) dX10_passFor_51 hw (by first | decide | omega) ?_
    refine gq_aload_n (pc := 52) dX10_passFor_52 rfl ?_
    refine gq_getr (pc := 53) dX10_passFor_53 fl_X10_41_10 sh_25 rfl ?_
    refine gq_iload_n (pc := 56) dX10_passFor_56 rfl ?_
    refine gq_dup2 (pc := 57) dX10_passFor_57 rfl rfl ?_
    refine kq_ald8 (pw := 25) (pc := 58) (by decide) dX10_passFor_58 hw (by first | decide | omega) ?_
    refine gq_iconst (pc := 59) dX10_passFor_59 kc_1 ?_
    refine gq_iload_n (pc := 60) dX10_passFor_60 rfl ?_
    refine gq_ishl (pc := 61) dX10_passFor_61 ?_
    refine gq_ior (pc := 62) dX10_passFor_62 ?_
    rw [← hS]
    refine kq_ast8 (pw := 25) (pc := 63) (by decide) dX10_passFor_63 hw (by first | decide | omega) ?_
    refine gq_iload_n (pc := 64) dX10_passFor_64 rfl ?_
    refine gq_aload_n (pc := 65) dX10_passFor_65 rfl ?_
    refine kq_get18 (pw := 25) (pc := 66) (by decide) dX10_passFor_66 fl_X10_54_10 ?_
    refine gq_ic_eq (pc := 69) 117 dX10_passFor_69 (by decide) (fun h_69 => ?_) (fun h_69 => ?_)
    · exact absurd h_69 hsp
    · refine gq_aload_n (pc := 72) dX10_passFor_72 rfl ?_
      refine gq_getr (pc := 73) dX10_passFor_73 fl_X10_38_10 sh_25 rfl ?_
      refine gq_iload_n (pc := 76) dX10_passFor_76 rfl ?_
      refine kq_ald7 (pw := 25) (pc := 77) (by decide) dX10_passFor_77 hw (by first | decide | omega) ?_
      rw [hb2]
      refine gq_aload_n (pc := 78) dX10_passFor_78 rfl ?_
      refine gq_iload_n (pc := 79) dX10_passFor_79 rfl ?_
      refine gq_rV1i (pc := 80) dX10_passFor_80 cv_X10_120 sh_25 (k_heavy_25 hI1 q0 q1) ⟨by decide, by decide⟩ rfl rfl (Nat.le_of_ble_eq_true rfl) ?_
      rw [hh]
      refine gq_aload_n (pc := 83) dX10_passFor_83 rfl ?_
      refine gq_getr (pc := 84) dX10_passFor_84 fl_X10_19_10 sh_25 rfl ?_
      refine gq_iload_n (pc := 87) dX10_passFor_87 rfl ?_
      refine kq_ald1 (pw := 25) (pc := 88) (by decide) dX10_passFor_88 et2 (by first | decide | omega) ?_
      rw [hd]
      refine gq_imul (pc := 89) dX10_passFor_89 ?_
      refine gq_tov (v := p_less r j) rfl ?_
      refine gq_rS2i (pc := 90) dX10_passFor_90 cs_X10_114 (k_min _ _) ⟨by decide, by decide⟩ (Nat.le_of_ble_eq_true rfl) ?_
      refine gq_istore (pc := 93) (l' := [(4, _), (3, _), (2, _), (0, _), (1, _)]) dX10_passFor_93 (by decide) rfl ?_
      refine gq_aload_n (pc := 95) dX10_passFor_95 rfl ?_
      refine gq_getr (pc := 96) dX10_passFor_96 fl_X10_38_10 sh_25 rfl ?_
      refine gq_iload_n (pc := 99) dX10_passFor_99 rfl ?_
      refine gq_dup2 (pc := 100) dX10_passFor_100 rfl rfl ?_
      refine kq_ald7 (pw := 25) (pc := 101) (by decide) dX10_passFor_101 hw (by first | decide | omega) ?_
      rw [hb2]
      refine gq_iload (pc := 102) dX10_passFor_102 rfl ?_
      refine gq_isub (pc := 104) dX10_passFor_104 ?_
      rw [m1]
      refine kq_ast7 (pw := 25) (pc := 105) (by decide) dX10_passFor_105 hw (by first | decide | omega) ?_
      refine gq_tog (g := ge_k g 25 (p_look1 r i j) x (upd hb i (p_shows r j))) (by rw [hS]; rfl) ?_
      refine gq_aload_n (pc := 106) dX10_passFor_106 rfl ?_
      refine gq_dup (pc := 107) dX10_passFor_107 rfl ?_
      refine kq_get17 (pw := 25) (pc := 108) (by decide) dX10_passFor_108 fl_X10_75_10 ?_
      refine gq_iload (pc := 111) dX10_passFor_111 rfl ?_
      refine gq_iadd (pc := 113) dX10_passFor_113 ?_
      rw [m2]
      refine kq_put17 (pw := 25) (pc := 114) (by decide) dX10_passFor_114 fp_X10_75_10 ?_
      refine gq_aload_n (pc := 117) dX10_passFor_117 rfl ?_
      refine gq_aload_n (pc := 118) dX10_passFor_118 rfl ?_
      refine gq_getr (pc := 119) dX10_passFor_119 fl_X10_35_10 sh_25 rfl ?_
      refine gq_iconst (pc := 122) dX10_passFor_122 kc_2 ?_
      refine gq_iload_n (pc := 123) dX10_passFor_123 rfl ?_
      refine gq_imul (pc := 124) dX10_passFor_124 ?_
      refine gq_iconst (pc := 125) dX10_passFor_125 kc_0 ?_
      refine gq_iadd (pc := 126) dX10_passFor_126 ?_
      refine kq_ald6 (pw := 25) (pc := 127) (by decide) dX10_passFor_127 (ge_nadd (ge_nmul kl_2 hw) kl_0) (by omega) (by omega) ?_
      refine gq_rV1v (pc := 128) dX10_passFor_128 cv_X10_123 sh_25 (k_wearOn_25 a1 b0) ⟨by decide, by decide⟩ rfl rfl (Nat.le_of_ble_eq_true rfl) ?_
      refine gq_tog (g := ge_k g 25 (p_wear1 (p_look1 r i j) i) (upd x 17 (x 17 + (p_o r i 2 - p_left r i j))) (upd hb i (p_shows r j))) rfl ?_
      refine gq_aload_n (pc := 131) dX10_passFor_131 rfl ?_
      refine gq_aload_n (pc := 132) dX10_passFor_132 rfl ?_
      refine gq_getr (pc := 133) dX10_passFor_133 fl_X10_35_10 sh_25 rfl ?_
      refine gq_iconst (pc := 136) dX10_passFor_136 kc_2 ?_
      refine gq_iload_n (pc := 137) dX10_passFor_137 rfl ?_
      refine gq_imul (pc := 138) dX10_passFor_138 ?_
      refine gq_iconst (pc := 139) dX10_passFor_139 kc_1 ?_
      refine gq_iadd (pc := 140) dX10_passFor_140 ?_
      refine kq_ald6 (pw := 25) (pc := 141) (by decide) dX10_passFor_141 (ge_nadd (ge_nmul kl_2 hw) kl_1) (by omega) (by omega) ?_
      refine gq_rV1v (pc := 142) dX10_passFor_142 cv_X10_123 sh_25 (k_wearOn_25 a2 b1) ⟨by decide, by decide⟩ rfl rfl (Nat.le_of_ble_eq_true rfl) ?_
      refine gq_tog (g := ge_k g 25 (p_look2 r i j) (upd x 17 (x 17 + (p_o r i 2 - p_left r i j))) (upd hb i (p_shows r j))) rfl ?_
      refine gq_iload_n (pc := 145) dX10_passFor_145 rfl ?_
      refine gq_aload_n (pc := 146) dX10_passFor_146 rfl ?_
      refine kq_get18 (pw := 25) (pc := 147) (by decide) dX10_passFor_147 fl_X10_54_10 ?_
      refine gq_ic_eq (pc := 150) 168 dX10_passFor_150 (by decide) (fun h_150 => ?_) (fun h_150 => ?_)
      · exact absurd h_150 (by simp only [upd]; exact hsp)
      · refine gq_aload_n (pc := 153) dX10_passFor_153 rfl ?_
        refine gq_getr (pc := 154) dX10_passFor_154 fl_X10_38_10 sh_25 rfl ?_
        refine gq_iload_n (pc := 157) dX10_passFor_157 rfl ?_
        refine kq_ald7 (pw := 25) (pc := 158) (by decide) dX10_passFor_158 hw (by first | decide | omega) ?_
        rw [hl2]
        refine gq_if_ne (pc := 159) 168 dX10_passFor_159 (by decide) (fun h_159 => ?_) (fun h_159 => ?_)
        · exact gq_vret (pc := 168) rfl dX10_passFor_168 ⟨rfl, by unfold p_one p_xf p_hf p_look; rw [if_neg hneg, if_neg hneg, if_neg hneg, ← hj]; first | (rw [if_neg h_159, if_neg h_159]; done) | (rw [if_pos h_159, if_pos h_159, p_take_at hV hu2 hiV q1 hsd, hw])⟩
        · refine gq_aload_n (pc := 162) dX10_passFor_162 rfl ?_
          refine gq_iload_n (pc := 163) dX10_passFor_163 rfl ?_
          refine gq_iload_n (pc := 164) dX10_passFor_164 rfl ?_
          rw [q0]
          refine gq_rV2v (pc := 165) dX10_passFor_165 cv_X10_126 sh_25 (k_takeOut_25 hV hq3 hw (by omega)) ⟨by decide, by decide⟩ rfl rfl (Nat.le_of_ble_eq_true rfl) ?_
          exact gq_vret (pc := 168) rfl dX10_passFor_168 ⟨rfl, by unfold p_one p_xf p_hf p_look; rw [if_neg hneg, if_neg hneg, if_neg hneg, ← hj]; first | (rw [if_neg h_159, if_neg h_159]; done) | (rw [if_pos h_159, if_pos h_159, p_take_at hV hu2 hiV q1 hsd, hw])⟩
  · refine gq_aload_n (pc := 11) dX10_passFor_11 rfl ?_
    refine gq_getr (pc := 12) dX10_passFor_12 fl_X10_44_10 sh_25 rfl ?_
    refine gq_iload_n (pc := 15) dX10_passFor_15 rfl ?_
    refine gq_bipush (pc := 16) dX10_passFor_16 kb_10 ?_
    refine kq_ast9 (pw := 25) (pc := 18) (by decide) dX10_passFor_18 hw (by first | decide | omega) ?_
    refine gq_aload_n (pc := 19) dX10_passFor_19 rfl ?_
    refine gq_getr (pc := 20) dX10_passFor_20 fl_X10_38_10 sh_25 rfl ?_
    refine gq_iload_n (pc := 23) dX10_passFor_23 rfl ?_
    refine gq_bipush (pc := 24) dX10_passFor_24 kb_99 ?_
    refine gq_aload_n (pc := 26) dX10_passFor_26 rfl ?_
    refine gq_getr (pc := 27) dX10_passFor_27 fl_X10_38_10 sh_25 rfl ?_
    refine gq_iload_n (pc := 30) dX10_passFor_30 rfl ?_
    refine kq_ald7 (pw := 25) (pc := 31) (by decide) dX10_passFor_31 hw (by first | decide | omega) ?_
    refine gq_iconst (pc := 32) dX10_passFor_32 kc_1 ?_
    refine gq_iadd (pc := 33) dX10_passFor_33 ?_
    refine gq_rS2i (pc := 34) dX10_passFor_34 cs_X10_114 (k_min _ _) ⟨by decide, by decide⟩ (Nat.le_of_ble_eq_true rfl) ?_
    rw [p_bear_min hI (w := i) (by omega)]
    refine kq_ast7 (pw := 25) (pc := 37) (by decide) dX10_passFor_37 hw (by first | decide | omega) ?_
    exact gq_vret (pc := 38) rfl dX10_passFor_38 ⟨rfl, by have hneg := (p_e1_m (p_heeded_e1 h0 h1)).mpr h_8; unfold p_one p_xf p_hf; rw [if_pos hneg, if_pos hneg, if_pos hneg]⟩
set_option maxHeartbeats 400000 in
theorem k_takeOut_35 {w e : Int32} {i V : Nat} (hV : V ≤ 6) (e3 : r 3 = nI V) (hw : w = nI i) (hi : i < 6) : ge_N X ge_SH YX10_takeOut 2 [.ref (ge_ad X.1 35), .int w, .int e] (ge_k g 35 r x hb) none (ge_k g 35 (p_uo (p_tf r e V) i 2 20) (p_xt x w) hb) := by
  refine gq_ofB (l := [(0, .ref (ge_ad X.1 35)), (1, .int w), (2, .int e)]) (by decide) (Nat.le_of_ble_eq_true rfl) rfl ?_
  refine gq_aload_n (pc := 0) dX10_takeOut_0 rfl ?_
  refine gq_iload_n (pc := 1) dX10_takeOut_1 rfl ?_
  refine gq_rV1v (pc := 2) dX10_takeOut_2 cv_X10_78 sh_35 (k_tf_35 hV e3) ⟨by decide, by decide⟩ rfl rfl (Nat.le_of_ble_eq_true rfl) ?_
  refine gq_aload_n (pc := 5) dX10_takeOut_5 rfl ?_
  refine gq_getr (pc := 6) dX10_takeOut_6 fl_X10_38_10 sh_35 rfl ?_
  refine gq_iload_n (pc := 9) dX10_takeOut_9 rfl ?_
  refine gq_bipush (pc := 10) dX10_takeOut_10 kb_20 ?_
  refine kq_ast7 (pw := 35) (pc := 12) (by decide) dX10_takeOut_12 hw (by first | decide | omega) ?_
  refine gq_aload_n (pc := 13) dX10_takeOut_13 rfl ?_
  refine kq_get15 (pw := 35) (pc := 14) (by decide) dX10_takeOut_14 fl_X10_72_10 ?_
  refine gq_if_ne (pc := 17) 25 dX10_takeOut_17 (by decide) (fun h_17 => ?_) (fun h_17 => ?_)
  · refine gq_aload_n (pc := 25) dX10_takeOut_25 rfl ?_
    refine gq_dup (pc := 26) dX10_takeOut_26 rfl ?_
    refine kq_get15 (pw := 35) (pc := 27) (by decide) dX10_takeOut_27 fl_X10_72_10 ?_
    refine gq_iconst (pc := 30) dX10_takeOut_30 kc_1 ?_
    refine gq_iadd (pc := 31) dX10_takeOut_31 ?_
    refine kq_put15 (pw := 35) (pc := 32) (by decide) dX10_takeOut_32 fp_X10_72_10 ?_
    exact gq_vret (pc := 35) rfl dX10_takeOut_35 ⟨rfl, by unfold p_xt; first | rw [if_pos h_17] | rw [if_neg h_17]⟩
  · refine gq_aload_n (pc := 20) dX10_takeOut_20 rfl ?_
    refine gq_iload_n (pc := 21) dX10_takeOut_21 rfl ?_
    refine kq_put16 (pw := 35) (pc := 22) (by decide) dX10_takeOut_22 fp_X10_51_10 ?_
    refine gq_aload_n (pc := 25) dX10_takeOut_25 rfl ?_
    refine gq_dup (pc := 26) dX10_takeOut_26 rfl ?_
    refine kq_get15 (pw := 35) (pc := 27) (by decide) dX10_takeOut_27 fl_X10_72_10 ?_
    refine gq_iconst (pc := 30) dX10_takeOut_30 kc_1 ?_
    refine gq_iadd (pc := 31) dX10_takeOut_31 ?_
    refine kq_put15 (pw := 35) (pc := 32) (by decide) dX10_takeOut_32 fp_X10_72_10 ?_
    exact gq_vret (pc := 35) rfl dX10_takeOut_35 ⟨rfl, by unfold p_xt; first | rw [if_pos h_17] | rw [if_neg h_17]⟩
set_option maxHeartbeats 2000000 in
theorem k_pass_35 {w : Int32} {i V : Nat} (hI : p_inv c r) (hL : c_lw g r) (hV : V ≤ 6) (e3 : r 3 = nI V) (hw : w = nI i) (hiV : i < V) (hu : p_uq V r) (hsp : ¬ w = x 18) (h0 : p_e1 (p_o r i 0)) (h1 : p_e1 (p_o r i 1)) : ge_N X ge_SH YX10_passFor 4 [.ref (ge_ad X.1 35), .int w] (ge_k g 35 r x hb) none (ge_k g 35 (p_one r i) (p_xf x r i) (upd hb i (p_hf r i))) := by
  refine gq_ofB (l := [(0, .ref (ge_ad X.1 35)), (1, .int w)]) (by decide) (Nat.le_of_ble_eq_true rfl) rfl ?_
  refine gq_aload_n (pc := 0) dX10_passFor_0 rfl ?_
  refine gq_iload_n (pc := 1) dX10_passFor_1 rfl ?_
  refine gq_rV1i (pc := 2) dX10_passFor_2 cv_X10_111 sh_35 (k_heed_35 hI hL hw (by omega) h0 h1) ⟨by decide, by decide⟩ rfl rfl (Nat.le_of_ble_eq_true rfl) ?_
  refine gq_istore_n (pc := 5) (l' := [(2, _), (0, _), (1, _)]) dX10_passFor_5 (by decide) rfl ?_
  refine gq_iload_n (pc := 6) dX10_passFor_6 rfl ?_
  refine gq_iconst (pc := 7) dX10_passFor_7 kc_m1 ?_
  refine gq_ic_ne (pc := 8) 39 dX10_passFor_8 (by decide) (fun h_8 => ?_) (fun h_8 => ?_)
  · obtain ⟨q0, q1⟩ := p_e1_n (p_heeded_e1 h0 h1) h_8
    obtain ⟨j, hj⟩ : ∃ j, j = (p_n (p_heeded r i)) := ⟨_, rfl⟩
    rw [← hj] at q0 q1
    obtain ⟨t, ht, et⟩ := p_shows_in hI q1
    have et2 : p_shows r j = nI (p_n (p_shows r j)) := by rw [et, p_n_nI (by omega)]
    have ht2 : p_n (p_shows r j) < 10 := by rw [et, p_n_nI (by omega)]; exact ht
    obtain ⟨S, hS⟩ : ∃ S, S = p_o r i 3 ||| ((1 : Int32) <<< (p_shows r j &&& 31)) := ⟨_, rfl⟩
    have hI1 : p_inv c (p_uo r i 3 S) := p_inv_uo hI (by omega) (by omega) ⟨fun z => by omega, fun z => by omega, fun _ => by rw [hS, et]; obtain ⟨q, hq, eq⟩ := (hI.2.2.2.2.2.1 i (by omega)).2; rw [eq]; exact p_seen_in hq ht⟩
    have hb2 : p_o (p_uo r i 3 S) i 2 = p_o r i 2 := by rw [p_o_uo _ _ _ _ _ _ (by omega) (by omega), if_neg (by omega)]
    have hh : p_heavy (p_uo r i 3 S) j = p_heavy r j := p_heavy_of (p_lo_uo _ _ _ _ _ (by omega)) (p_e_uo _ _ _ _ _ _ q1 (by omega))
    have hd : (p_uo r i 3 S) (8 + p_n (p_shows r j)) = r (8 + p_n (p_shows r j)) := p_lo_uo _ _ _ _ _ (by omega)
    obtain ⟨m1, m2⟩ := p_min_left r i j
    have b0 : p_e1 (p_o (p_look1 r i j) i 0) := by rw [p_o_look1 i j 0 (by omega)]; exact h0
    have b1 : p_e1 (p_o (p_wear1 (p_look1 r i j) i) i 1) := by unfold p_wear1; rw [p_o_wear (p_e1_eo b0), p_o_look1 i j 1 (by omega)]; exact h1
    have a1 := p_inv_look1 hI (w := i) (by omega) q1
    have a2 : p_inv c (p_wear1 (p_look1 r i j) i) := p_inv_wear a1 (p_e1_eo b0)
    obtain ⟨a3, a4⟩ := p_inv_look2 hI (w := i) (by omega) q1 (p_e1_eo h0) (p_e1_eo h1)
    have hneg : ¬ p_heeded r i < 0 := fun z => h_8 ((p_e1_m (p_heeded_e1 h0 h1)).mp z)
    have hl2 := p_o_look2 (r := r) (w := i) (e := j) (p_e1_eo b0) (p_e1_eo b1)
    have hq3 : (p_look2 r i j) 3 = nI V := by rw [p_lo_look2 3 (by omega)]; exact e3
    have hu2 : p_uq V (p_look2 r i j) := fun w1 w2 s1 s2 k1 k2 k3 k4 k5 => by rw [a4 s1 k3 w1] at k5 ⊢; rw [a4 s2 k4 w2] at k5; exact hu w1 w2 s1 s2 k1 k2 k3 k4 k5
    have hsd : p_o (p_look2 r i j) i 0 = nI j ∨ p_o (p_look2 r i j) i 1 = nI j := by rw [a4 0 (by omega) i, a4 1 (by omega) i, ← q0]; exact p_heeded_side h_8
    refine gq_aload_n (pc := 39) dX10_passFor_39 rfl ?_
    refine gq_iload_n (pc := 40) dX10_passFor_40 rfl ?_
    refine gq_rV1i (pc := 41) dX10_passFor_41 cv_X10_105 sh_35 (k_thing_35 hI hL q0 q1) ⟨by decide, by decide⟩ rfl rfl (Nat.le_of_ble_eq_true rfl) ?_
    refine gq_istore_n (pc := 44) (l' := [(3, _), (2, _), (0, _), (1, _)]) dX10_passFor_44 (by decide) rfl ?_
    refine gq_aload_n (pc := 45) dX10_passFor_45 rfl ?_
    refine gq_getr (pc := 46) dX10_passFor_46 fl_X10_44_10 sh_35 rfl ?_
    refine gq_iload_n (pc := 49) dX10_passFor_49 rfl ?_
    refine gq_iload_n (pc := 50) dX10_passFor_50 rfl ?_
    refine kq_ast9 (pw := 35) (pc := 51) (by decide) dX10_passFor_51 hw (by first | decide | omega) ?_
    refine gq_aload_n (pc := 52) dX10_passFor_52 rfl ?_
    refine gq_getr (pc := 53) dX10_passFor_53 fl_X10_41_10 sh_35 rfl ?_
    refine gq_iload_n (pc := 56) dX10_passFor_56 rfl ?_
    refine gq_dup2 (pc := 57) dX10_passFor_57 rfl rfl ?_
    refine kq_ald8 (pw := 35) (pc := 58) (by decide) dX10_passFor_58 hw (by first | decide | omega) ?_
    refine gq_iconst (pc := 59) dX10_passFor_59 kc_1 ?_
    refine gq_iload_n (pc := 60) dX10_passFor_60 rfl ?_
    refine gq_ishl (pc := 61) dX10_passFor_61 ?_
    refine gq_ior (pc := 62) dX10_passFor_62 ?_
    rw [← hS]
    refine kq_ast8 (pw := 35) (pc := 63) (by decide) dX10_passFor_63 hw (by first | decide | omega) ?_
    refine gq_iload_n (pc := 64) dX10_passFor_64 rfl ?_
    refine gq_aload_n (pc := 65) dX10_passFor_65 rfl ?_
    refine kq_get18 (pw := 35) (pc := 66) (by decide) dX10_passFor_66 fl_X10_54_10 ?_
    refine gq_ic_eq (pc := 69) 117 dX10_passFor_69 (by decide) (fun h_69 => ?_) (fun h_69 => ?_)
    · exact absurd h_69 hsp
    · refine gq_aload_n (pc := 72) dX10_passFor_72 rfl ?_
      refine gq_getr (pc := 73) dX10_passFor_73 fl_X10_38_10 sh_35 rfl ?_
      refine gq_iload_n (pc := 76) dX10_passFor_76 rfl ?_
      refine kq_ald7 (pw := 35) (pc := 77) (by decide) dX10_passFor_77 hw (by first | decide | omega) ?_
      rw [hb2]
      refine gq_aload_n (pc := 78) dX10_passFor_78 rfl ?_
      refine gq_iload_n (pc := 79) dX10_passFor_79 rfl ?_
      refine gq_rV1i (pc := 80) dX10_passFor_80 cv_X10_120 sh_35 (k_heavy_35 hI1 q0 q1) ⟨by decide, by decide⟩ rfl rfl (Nat.le_of_ble_eq_true rfl) ?_
      rw [hh]
      refine gq_aload_n (pc := 83) dX10_passFor_83 rfl ?_
      refine gq_getr (pc := 84) dX10_passFor_84 fl_X10_19_10 sh_35 rfl ?_
      refine gq_iload_n (pc := 87) dX10_passFor_87 rfl ?_
      refine kq_ald1 (pw := 35) (pc := 88) (by decide) dX10_passFor_88 et2 (by first | decide | omega) ?_
      rw [hd]
      refine gq_imul (pc := 89) dX10_passFor_89 ?_
      refine gq_tov (v := p_less r j) rfl ?_
      refine gq_rS2i (pc := 90) dX10_passFor_90 cs_X10_114 (k_min _ _) ⟨by decide, by decide⟩ (Nat.le_of_ble_eq_true rfl) ?_
      refine gq_istore (pc := 93) (l' := [(4, _), (3, _), (2, _), (0, _), (1, _)]) dX10_passFor_93 (by decide) rfl ?_
      refine gq_aload_n (pc := 95) dX10_passFor_95 rfl ?_
      refine gq_getr (pc := 96) dX10_passFor_96 fl_X10_38_10 sh_35 rfl ?_
      refine gq_iload_n (pc := 99) dX10_passFor_99 rfl ?_
      refine gq_dup2 (pc := 100) dX10_passFor_100 rfl rfl ?_
      refine kq_ald7 (pw := 35) (pc := 101) (by decide) dX10_passFor_101 hw (by first | decide | omega) ?_
      rw [hb2]
      refine gq_iload (pc := 102) dX10_passFor_102 rfl ?_
      refine gq_isub (pc := 104) dX10_passFor_104 ?_
      rw [m1]
      refine kq_ast7 (pw := 35) (pc := 105) (by decide) dX10_passFor_105 hw (by first | decide | omega) ?_
      refine gq_tog (g := ge_k g 35 (p_look1 r i j) x (upd hb i (p_shows r j))) (by rw [hS]; rfl) ?_
      refine gq_aload_n (pc := 106) dX10_passFor_106 rfl ?_
      refine gq_dup (pc := 107) dX10_passFor_107 rfl ?_
      refine kq_get17 (pw := 35) (pc := 108) (by decide) dX10_passFor_108 fl_X10_75_10 ?_
      refine gq_iload (pc := 111) dX10_passFor_111 rfl ?_
      refine gq_iadd (pc := 113) dX10_passFor_113 ?_
      rw [m2]
      refine kq_put17 (pw := 35) (pc := 114) (by decide) dX10_passFor_114 fp_X10_75_10 ?_
      refine gq_aload_n (pc := 117) dX10_passFor_117 rfl ?_
      refine gq_aload_n (pc := 118) dX10_passFor_118 rfl ?_
      refine gq_getr (pc := 119) dX10_passFor_119 fl_X10_35_10 sh_35 rfl ?_
      refine gq_iconst (pc := 122) dX10_passFor_122 kc_2 ?_
      refine gq_iload_n (pc := 123) dX10_passFor_123 rfl ?_
      refine gq_imul (pc := 124) dX10_passFor_124 ?_
      refine gq_iconst (pc := 125) dX10_passFor_125 kc_0 ?_
      refine gq_iadd (pc := 126) dX10_passFor_126 ?_
      refine kq_ald6 (pw := 35) (pc := 127) (by decide) dX10_passFor_127 (ge_nadd (ge_nmul kl_2 hw) kl_0) (by omega) (by omega) ?_
      refine gq_rV1v (pc := 128) dX10_passFor_128 cv_X10_123 sh_35 (k_wearOn_35 a1 b0) ⟨by decide, by decide⟩ rfl rfl (Nat.le_of_ble_eq_true rfl) ?_
      refine gq_tog (g := ge_k g 35 (p_wear1 (p_look1 r i j) i) (upd x 17 (x 17 + (p_o r i 2 - p_left r i j))) (upd hb i (p_shows r j))) rfl ?_
      refine gq_aload_n (pc := 131) dX10_passFor_131 rfl ?_
      refine gq_aload_n (pc := 132) dX10_passFor_132 rfl ?_
      refine gq_getr (pc := 133) dX10_passFor_133 fl_X10_35_10 sh_35 rfl ?_
      refine gq_iconst (pc := 136) dX10_passFor_136 kc_2 ?_
      refine gq_iload_n (pc := 137) dX10_passFor_137 rfl ?_
      refine gq_imul (pc := 138) dX10_passFor_138 ?_
      refine gq_iconst (pc := 139) dX10_passFor_139 kc_1 ?_
      refine gq_iadd (pc := 140) dX10_passFor_140 ?_
      refine kq_ald6 (pw := 35) (pc := 141) (by decide) dX10_passFor_141 (ge_nadd (ge_nmul kl_2 hw) kl_1) (by omega) (by omega) ?_
      refine gq_rV1v (pc := 142) dX10_passFor_142 cv_X10_123 sh_35 (k_wearOn_35 a2 b1) ⟨by decide, by decide⟩ rfl rfl (Nat.le_of_ble_eq_true rfl) ?_
      refine gq_tog (g := ge_k g 35 (p_look2 r i j) (upd x 17 (x 17 + (p_o r i 2 - p_left r i j))) (upd hb i (p_shows r j))) rfl ?_
      refine gq_iload_n (pc := 145) dX10_passFor_145 rfl ?_
      refine gq_aload_n (pc := 146) dX10_passFor_146 rfl ?_
      refine kq_get18 (pw := 35) (pc := 147) (by decide) dX10_passFor_147 fl_X10_54_10 ?_
      refine gq_ic_eq (pc := 150) 168 dX10_passFor_150 (by decide) (fun h_150 => ?_) (fun h_150 => ?_)
      · exact absurd h_150 (by simp only [upd]; exact hsp)
      · refine gq_aload_n (pc := 153) dX10_passFor_153 rfl ?_
        refine gq_getr (pc := 154) dX10_passFor_154 fl_X10_38_10 sh_35 rfl ?_
        refine gq_iload_n (pc := 157) dX10_passFor_157 rfl ?_
        refine kq_ald7 (pw := 35) (pc := 158) (by decide) dX10_passFor_158 hw (by first | decide | omega) ?_
        rw [hl2]
        refine gq_if_ne (pc := 159) 168 dX10_passFor_159 (by decide) (fun h_159 => ?_) (fun h_159 => ?_)
        · exact gq_vret (pc := 168) rfl dX10_passFor_168 ⟨rfl, by unfold p_one p_xf p_hf p_look; rw [if_neg hneg, if_neg hneg, if_neg hneg, ← hj]; first | (rw [if_neg h_159, if_neg h_159]; done) | (rw [if_pos h_159, if_pos h_159, p_take_at hV hu2 hiV q1 hsd, hw])⟩
        · refine gq_aload_n (pc := 162) dX10_passFor_162 rfl ?_
          refine gq_iload_n (pc := 163) dX10_passFor_163 rfl ?_
          refine gq_iload_n (pc := 164) dX10_passFor_164 rfl ?_
          rw [q0]
          refine gq_rV2v (pc := 165) dX10_passFor_165 cv_X10_126 sh_35 (k_takeOut_35 hV hq3 hw (by omega)) ⟨by decide, by decide⟩ rfl rfl (Nat.le_of_ble_eq_true rfl) ?_
          exact gq_vret (pc := 168) rfl dX10_passFor_168 ⟨rfl, by unfold p_one p_xf p_hf p_look; rw [if_neg hneg, if_neg hneg, if_neg hneg, ← hj]; first | (rw [if_neg h_159, if_neg h_159]; done) | (rw [if_pos h_159, if_pos h_159, p_take_at hV hu2 hiV q1 hsd, hw])⟩
  · refine gq_aload_n (pc := 11) dX10_passFor_11 rfl ?_
    refine gq_getr (pc := 12) dX10_passFor_12 fl_X10_44_10 sh_35 rfl ?_
    refine gq_iload_n (pc := 15) dX10_passFor_15 rfl ?_
    refine gq_bipush (pc := 16) dX10_passFor_16 kb_10 ?_
    refine kq_ast9 (pw := 35) (pc := 18) (by decide) dX10_passFor_18 hw (by first | decide | omega) ?_
    refine gq_aload_n (pc := 19) dX10_passFor_19 rfl ?_
    refine gq_getr (pc := 20) dX10_passFor_20 fl_X10_38_10 sh_35 rfl ?_
    refine gq_iload_n (pc := 23) dX10_passFor_23 rfl ?_
    refine gq_bipush (pc := 24) dX10_passFor_24 kb_99 ?_
    refine gq_aload_n (pc := 26) dX10_passFor_26 rfl ?_
    refine gq_getr (pc := 27) dX10_passFor_27 fl_X10_38_10 sh_35 rfl ?_
    refine gq_iload_n (pc := 30) dX10_passFor_30 rfl ?_
    refine kq_ald7 (pw := 35) (pc := 31) (by decide) dX10_passFor_31 hw (by first | decide | omega) ?_
    refine gq_iconst (pc := 32) dX10_passFor_32 kc_1 ?_
    refine gq_iadd (pc := 33) dX10_passFor_33 ?_
    refine gq_rS2i (pc := 34) dX10_passFor_34 cs_X10_114 (k_min _ _) ⟨by decide, by decide⟩ (Nat.le_of_ble_eq_true rfl) ?_
    rw [p_bear_min hI (w := i) (by omega)]
    refine kq_ast7 (pw := 35) (pc := 37) (by decide) dX10_passFor_37 hw (by first | decide | omega) ?_
    exact gq_vret (pc := 38) rfl dX10_passFor_38 ⟨rfl, by have hneg := (p_e1_m (p_heeded_e1 h0 h1)).mpr h_8; unfold p_one p_xf p_hf; rw [if_pos hneg, if_pos hneg, if_pos hneg]⟩
end W6
