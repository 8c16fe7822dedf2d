section W5
variable {X : ge_X} {g : ge_G} {r x hb : Nat → Int32} {c : Nat}
/-- what a side holds: -1, or an eye -/
def p_e1 (v : Int32) : Prop := v = -1 ∨ ∃ j, j < 8 ∧ v = nI j
theorem p_e1_eo {v : Int32} (h : p_e1 v) : p_eo v := by
  rcases h with h | h
  · exact Or.inl (by rw [h]; decide)
  · exact Or.inr h
theorem p_e1_m {v : Int32} (h : p_e1 v) : v < 0 ↔ v = -1 := by
  rcases h with h | ⟨j, hj, rfl⟩
  · rw [h]; decide
  · constructor
    · intro z; exact absurd z (nI_pos (by omega))
    · intro z; rw [z]; decide
theorem p_e1_n {v : Int32} (h : p_e1 v) (h0 : ¬ v = -1) : v = nI (p_n v) ∧ p_n v < 8 := p_eo_n (p_e1_eo h) (fun z => h0 ((p_e1_m h).mp z))
theorem p_inv_e1 (h : p_inv c r) {V w s : Nat} (e3 : r 3 = nI V) (hV : V ≤ 6) (hw : w < V) (hs : s < 2) : p_e1 (p_o r w s) := by
  obtain ⟨E, hE, e2, V', hV', e3', hv⟩ := h.2.2.2.1
  obtain rfl : V = V' := (nI_eq (by omega) (by omega)).mp (e3.symm.trans e3')
  rcases hv w hw s hs with q | ⟨e, he, q⟩
  · exact Or.inl q
  · exact Or.inr ⟨e, by omega, q⟩
theorem p_heeded_e1 {w : Nat} (h0 : p_e1 (p_o r w 0)) (h1 : p_e1 (p_o r w 1)) : p_e1 (p_heeded r w) := by
  unfold p_heeded
  repeat' split
  all_goals assumption
theorem p_wear_min (hI : p_inv c r) {e : Nat} (he : e < 8) : p_min 9999 (p_e r e 3 + 1) = p_held (p_e r e 3 + 1) 0 9999 := by
  obtain ⟨k, hk, ek⟩ := (hI.2.2.2.2.1 e he).2.2.2
  rw [ek, nI_1]
  unfold p_min p_held
  rw [if_pos (show (0 : Int32) ≤ nI (k + 1) from nI_pos' (by omega))]
  by_cases h : nI (k + 1) < (9999 : Int32)
  · rw [if_pos h, if_pos (Int32.le_of_lt h)]
  · rw [if_neg h]
    have h2 : (9999 : Int32) ≤ nI (k + 1) := Int32.not_lt.mp h
    by_cases h3 : nI (k + 1) ≤ (9999 : Int32)
    · rw [if_pos h3]; exact Int32.le_antisymm h2 h3
    · rw [if_neg h3]
theorem p_bear_min (hI : p_inv c r) {w : Nat} (hw : w < 6) : p_min 99 (p_o r w 2 + 1) = p_held (p_o r w 2 + 1) 0 99 := by
  obtain ⟨k, hk, ek⟩ := (hI.2.2.2.2.2.1 w hw).1
  rw [ek, nI_1]
  unfold p_min p_held
  rw [if_pos (show (0 : Int32) ≤ nI (k + 1) from nI_pos' (by omega))]
  by_cases h : nI (k + 1) < (99 : Int32)
  · rw [if_pos h, if_pos (Int32.le_of_lt h)]
  · rw [if_neg h]
    have h2 : (99 : Int32) ≤ nI (k + 1) := Int32.not_lt.mp h
    by_cases h3 : nI (k + 1) ≤ (99 : Int32)
    · rw [if_pos h3]; exact Int32.le_antisymm h2 h3
    · rw [if_neg h3]
/-- the first socket that holds e -/
def p_sk (r : Nat → Int32) (e : Int32) : Nat → Nat → Int32
  | 0, _ => -1
  | m + 1, i => if p_o r (i / 2) (i % 2) = e then nI i else p_sk r e m (i + 1)
theorem p_sk_s (r : Nat → Int32) (e : Int32) (m i : Nat) : p_sk r e (m + 1) i = if p_o r (i / 2) (i % 2) = e then nI i else p_sk r e m (i + 1) := rfl
theorem p_sk_in (r : Nat → Int32) (e : Int32) : ∀ m i, p_sk r e m i = -1 ∨ ∃ j, i ≤ j ∧ j < i + m ∧ p_sk r e m i = nI j ∧ p_o r (j / 2) (j % 2) = e := by
  intro m
  induction m with
  | zero => intro i; exact Or.inl rfl
  | succ m ih =>
    intro i
    rw [p_sk_s]
    by_cases h : p_o r (i / 2) (i % 2) = e
    · rw [if_pos h]; exact Or.inr ⟨i, by omega, by omega, rfl, h⟩
    · rw [if_neg h]
      rcases ih (i + 1) with q | ⟨j, h1, h2, h3⟩
      · exact Or.inl q
      · exact Or.inr ⟨j, by omega, by omega, h3⟩
/-- an eye is taken from where it is -/
def p_tf (r : Nat → Int32) (e : Int32) (V : Nat) : Nat → Int32 := if e = -1 then r else if p_sk r e (2 * V) 0 < 0 then r else p_uo r (p_n (p_sk r e (2 * V) 0) / 2) (p_n (p_sk r e (2 * V) 0) % 2) (-1)
set_option maxHeartbeats 400000 in
theorem k_heed_25 {w : Int32} {i : Nat} (hI : p_inv c r) (hL : c_lw g r) (hw : w = nI i) (hi : i < 6) (h0 : p_e1 (p_o r i 0)) (h1 : p_e1 (p_o r i 1)) : ge_N X ge_SH YX10_heededEye 3 [.ref (ge_ad X.1 25), .int w] (ge_k g 25 r x hb) (some (.int (p_heeded r i))) (ge_k g 25 r x hb) := by
  refine gq_ofB (l := [(0, .ref (ge_ad X.1 25)), (1, .int w)]) (by decide) (Nat.le_of_ble_eq_true rfl) rfl ?_
  refine gq_aload_n (pc := 0) dX10_heededEye_0 rfl ?_
  refine gq_getr (pc := 1) dX10_heededEye_1 fl_X10_35_10 sh_25 rfl ?_
  refine gq_iconst (pc := 4) dX10_heededEye_4 kc_2 ?_
  refine gq_iload_n (pc := 5) dX10_heededEye_5 rfl ?_
  refine gq_imul (pc := 6) dX10_heededEye_6 ?_
  refine gq_iconst (pc := 7) dX10_heededEye_7 kc_0 ?_
  refine gq_iadd (pc := 8) dX10_heededEye_8 ?_
  refine kq_ald6 (pw := 25) (pc := 9) (by decide) dX10_heededEye_9 (ge_nadd (ge_nmul kl_2 hw) kl_0) (by omega) (by omega) ?_
  refine gq_istore_n (pc := 10) (l' := [(2, _), (0, _), (1, _)]) dX10_heededEye_10 (by decide) rfl ?_
  refine gq_aload_n (pc := 11) dX10_heededEye_11 rfl ?_
  refine gq_getr (pc := 12) dX10_heededEye_12 fl_X10_35_10 sh_25 rfl ?_
  refine gq_iconst (pc := 15) dX10_heededEye_15 kc_2 ?_
  refine gq_iload_n (pc := 16) dX10_heededEye_16 rfl ?_
  refine gq_imul (pc := 17) dX10_heededEye_17 ?_
  refine gq_iconst (pc := 18) dX10_heededEye_18 kc_1 ?_
  refine gq_iadd (pc := 19) dX10_heededEye_19 ?_
  refine kq_ald6 (pw := 25) (pc := 20) (by decide) dX10_heededEye_20 (ge_nadd (ge_nmul kl_2 hw) kl_1) (by omega) (by omega) ?_
  refine gq_istore_n (pc := 21) (l' := [(3, _), (2, _), (0, _), (1, _)]) dX10_heededEye_21 (by decide) rfl ?_
  refine gq_iload_n (pc := 22) dX10_heededEye_22 rfl ?_
  refine gq_iconst (pc := 23) dX10_heededEye_23 kc_m1 ?_
  refine gq_ic_ne (pc := 24) 29 dX10_heededEye_24 (by decide) (fun h_24 => ?_) (fun h_24 => ?_)
  · refine gq_iload_n (pc := 29) dX10_heededEye_29 rfl ?_
    refine gq_iconst (pc := 30) dX10_heededEye_30 kc_m1 ?_
    refine gq_ic_ne (pc := 31) 36 dX10_heededEye_31 (by decide) (fun h_31 => ?_) (fun h_31 => ?_)
    · obtain ⟨q0, q1⟩ := p_e1_n h0 h_24
      obtain ⟨q2, q3⟩ := p_e1_n h1 h_31
      refine gq_aload_n (pc := 36) dX10_heededEye_36 rfl ?_
      refine gq_getr (pc := 37) dX10_heededEye_37 fl_X10_9_10 sh_25 rfl ?_
      refine gq_iconst (pc := 40) dX10_heededEye_40 kc_1 ?_
      refine gq_aload_n (pc := 41) dX10_heededEye_41 rfl ?_
      refine gq_iload_n (pc := 42) dX10_heededEye_42 rfl ?_
      refine gq_rV1i (pc := 43) dX10_heededEye_43 cv_X10_105 sh_25 (k_thing_25 hI hL q0 q1) ⟨by decide, by decide⟩ rfl rfl (Nat.le_of_ble_eq_true rfl) ?_
      refine gq_aload_n (pc := 46) dX10_heededEye_46 rfl ?_
      refine gq_iload_n (pc := 47) dX10_heededEye_47 rfl ?_
      refine gq_rV1i (pc := 48) dX10_heededEye_48 cv_X10_105 sh_25 (k_thing_25 hI hL q2 q3) ⟨by decide, by decide⟩ rfl rfl (Nat.le_of_ble_eq_true rfl) ?_
      refine gq_aload_n (pc := 51) dX10_heededEye_51 rfl ?_
      refine kq_get13 (pw := 25) (pc := 52) (by decide) dX10_heededEye_52 fl_X10_69_10 ?_
      refine gq_bipush (pc := 55) dX10_heededEye_55 kb_12 ?_
      refine gq_irem (pc := 57) dX10_heededEye_57 (by decide) (rfl : _ = p_rem _ _) ?_
      refine gq_rV4i (pc := 58) dX10_heededEye_58 cv_X10_90 sh_11 (kw_worth1_25 hL) ⟨by decide, by decide⟩ rfl rfl (Nat.le_of_ble_eq_true rfl) ?_
      refine gq_if_eq (pc := 61) 68 dX10_heededEye_61 (by decide) (fun h_61 => ?_) (fun h_61 => ?_)
      · refine gq_iload_n (pc := 68) dX10_heededEye_68 rfl ?_
        exact gq_iret (pc := 69) rfl dX10_heededEye_69 ⟨by unfold p_heeded; rw [if_neg (fun z => h_24 ((p_e1_m h0).mp z)), if_neg (fun z => h_31 ((p_e1_m h1).mp z))]; first | rw [if_pos h_61] | rw [if_neg h_61], rfl⟩
      · refine gq_iload_n (pc := 64) dX10_heededEye_64 rfl ?_
        refine gq_goto (pc := 65) 69 dX10_heededEye_65 (by decide) ?_
        exact gq_iret (pc := 69) rfl dX10_heededEye_69 ⟨by unfold p_heeded; rw [if_neg (fun z => h_24 ((p_e1_m h0).mp z)), if_neg (fun z => h_31 ((p_e1_m h1).mp z))]; first | rw [if_pos h_61] | rw [if_neg h_61], rfl⟩
    · refine gq_iload_n (pc := 34) dX10_heededEye_34 rfl ?_
      exact gq_iret (pc := 35) rfl dX10_heededEye_35 ⟨by unfold p_heeded; rw [if_neg (fun z => h_24 ((p_e1_m h0).mp z)), if_pos ((p_e1_m h1).mpr h_31)], rfl⟩
  · refine gq_iload_n (pc := 27) dX10_heededEye_27 rfl ?_
    exact gq_iret (pc := 28) rfl dX10_heededEye_28 ⟨by unfold p_heeded; rw [if_pos ((p_e1_m h0).mpr h_24)], rfl⟩
set_option maxHeartbeats 400000 in
theorem k_wearOn_25 {e : Int32} (hI : p_inv c r) (h0 : p_e1 e) : ge_N X ge_SH YX10_wearOn 1 [.ref (ge_ad X.1 25), .int e] (ge_k g 25 r x hb) none (ge_k g 25 (p_wear r e) x hb) := by
  refine gq_ofB (l := [(0, .ref (ge_ad X.1 25)), (1, .int e)]) (by decide) (Nat.le_of_ble_eq_true rfl) rfl ?_
  refine gq_iload_n (pc := 0) dX10_wearOn_0 rfl ?_
  refine gq_iconst (pc := 1) dX10_wearOn_1 kc_m1 ?_
  refine gq_ic_eq (pc := 2) 25 dX10_wearOn_2 (by decide) (fun h_2 => ?_) (fun h_2 => ?_)
  · exact gq_vret (pc := 25) rfl dX10_wearOn_25 ⟨rfl, by unfold p_wear; first | rw [if_pos ((p_e1_m h0).mpr h_2)] | rw [if_neg (fun z => h_2 ((p_e1_m h0).mp z))]⟩
  · obtain ⟨q0, q1⟩ := p_e1_n h0 h_2
    refine gq_aload_n (pc := 5) dX10_wearOn_5 rfl ?_
    refine gq_getr (pc := 6) dX10_wearOn_6 fl_X10_32_10 sh_25 rfl ?_
    refine gq_iload_n (pc := 9) dX10_wearOn_9 rfl ?_
    refine gq_sipush (pc := 10) dX10_wearOn_10 kq_9999 ?_
    refine gq_aload_n (pc := 13) dX10_wearOn_13 rfl ?_
    refine gq_getr (pc := 14) dX10_wearOn_14 fl_X10_32_10 sh_25 rfl ?_
    refine gq_iload_n (pc := 17) dX10_wearOn_17 rfl ?_
    refine kq_ald5 (pw := 25) (pc := 18) (by decide) dX10_wearOn_18 q0 (by first | decide | omega) ?_
    refine gq_iconst (pc := 19) dX10_wearOn_19 kc_1 ?_
    refine gq_iadd (pc := 20) dX10_wearOn_20 ?_
    refine gq_rS2i (pc := 21) dX10_wearOn_21 cs_X10_114 (k_min _ _) ⟨by decide, by decide⟩ (Nat.le_of_ble_eq_true rfl) ?_
    rw [p_wear_min hI q1]
    refine kq_ast5 (pw := 25) (pc := 24) (by decide) dX10_wearOn_24 q0 (by first | decide | omega) ?_
    exact gq_vret (pc := 25) rfl dX10_wearOn_25 ⟨rfl, by unfold p_wear; first | rw [if_pos ((p_e1_m h0).mpr h_2)] | rw [if_neg (fun z => h_2 ((p_e1_m h0).mp z))]⟩
set_option maxHeartbeats 1000000 in
theorem k_sock_25 {e : Int32} {V : Nat} (hV : V ≤ 6) (e3 : r 3 = nI V) : ge_N X ge_SH YX10_socketOf 0 [.ref (ge_ad X.1 25), .int e] (ge_k g 25 r x hb) (some (.int (p_sk r e (2 * V) 0))) (ge_k g 25 r x hb) := by
  refine gq_ofB (l := [(0, .ref (ge_ad X.1 25)), (1, .int e)]) (by decide) (Nat.le_of_ble_eq_true rfl) rfl ?_
  generalize hR : p_sk r e (2 * V) 0 = R
  have key : ∀ (m i : Nat), i + m = 2 * V → p_sk r e m i = R → ge_B X ge_SH YX10_socketOf 0 (fun v2 g2 => v2 = some (.int R) ∧ g2 = (ge_k g 25 r x hb)) 2 [(2, .int (nI i)), (0, .ref (ge_ad X.1 25)), (1, .int e)] [] (ge_k g 25 r x hb) := by
    intro m
    induction m with
    | zero =>
      intro i hi he
      subst he
      refine gq_iload_n (pc := 2) dX10_socketOf_2 rfl ?_
      refine gq_iconst (pc := 3) dX10_socketOf_3 kc_2 ?_
      refine gq_aload_n (pc := 4) dX10_socketOf_4 rfl ?_
      refine kq_get12 (pw := 25) (pc := 5) (by decide) dX10_socketOf_5 fl_X10_66_10 ?_
      refine gq_imul (pc := 8) dX10_socketOf_8 ?_
      rw [e3, show (2 : Int32) * nI V = nI (2 * V) from pk_mul 2 V]
      refine gq_ic_ge (pc := 9) 30 dX10_socketOf_9 (by decide) (fun h_9 => ?_) (fun h_9 => ?_)
      · refine gq_iconst (pc := 30) dX10_socketOf_30 kc_m1 ?_
        exact gq_iret (pc := 31) rfl dX10_socketOf_31 ⟨rfl, rfl⟩
      · exact absurd ((nI_leI (by omega) (by omega)).mpr (by omega)) h_9
    | succ m ih =>
      intro i hi he
      rw [p_sk_s] at he
      refine gq_iload_n (pc := 2) dX10_socketOf_2 rfl ?_
      refine gq_iconst (pc := 3) dX10_socketOf_3 kc_2 ?_
      refine gq_aload_n (pc := 4) dX10_socketOf_4 rfl ?_
      refine kq_get12 (pw := 25) (pc := 5) (by decide) dX10_socketOf_5 fl_X10_66_10 ?_
      refine gq_imul (pc := 8) dX10_socketOf_8 ?_
      rw [e3, show (2 : Int32) * nI V = nI (2 * V) from pk_mul 2 V]
      refine gq_ic_ge (pc := 9) 30 dX10_socketOf_9 (by decide) (fun h_9 => ?_) (fun h_9 => ?_)
      · exact absurd ((nI_leI (by omega) (by omega)).mp h_9) (by omega)
      · refine gq_aload_n (pc := 12) dX10_socketOf_12 rfl ?_
        refine gq_getr (pc := 13) dX10_socketOf_13 fl_X10_35_10 sh_25 rfl ?_
        refine gq_iload_n (pc := 16) dX10_socketOf_16 rfl ?_
        refine kq_ald6 (pw := 25) (pc := 17) (by decide) dX10_socketOf_17 (w := i / 2) (s := i % 2) (congrArg nI (by omega)) (by omega) (by omega) ?_
        refine gq_iload_n (pc := 18) dX10_socketOf_18 rfl ?_
        refine gq_ic_ne (pc := 19) 24 dX10_socketOf_19 (by decide) (fun h_19 => ?_) (fun h_19 => ?_)
        · rw [if_neg h_19] at he
          refine gq_iinc (pc := 24) (l' := [(2, _), (0, _), (1, _)]) dX10_socketOf_24 rfl (ge_inc1 i) (by decide) rfl ?_
          refine gq_goto (pc := 27) 2 dX10_socketOf_27 (by decide) ?_
          exact ih (i + 1) (by omega) he
        · rw [if_pos h_19] at he
          subst he
          refine gq_iload_n (pc := 22) dX10_socketOf_22 rfl ?_
          exact gq_iret (pc := 23) rfl dX10_socketOf_23 ⟨rfl, rfl⟩
  refine gq_iconst (pc := 0) dX10_socketOf_0 kc_0 ?_
  refine gq_istore_n (pc := 1) (l' := [(2, _), (0, _), (1, _)]) dX10_socketOf_1 (by decide) rfl ?_
  exact key (2 * V) 0 (by omega) hR
set_option maxHeartbeats 400000 in
theorem k_tf_25 {e : Int32} {V : Nat} (hV : V ≤ 6) (e3 : r 3 = nI V) : ge_N X ge_SH YX10_takeFromWhereItIs 1 [.ref (ge_ad X.1 25), .int e] (ge_k g 25 r x hb) none (ge_k g 25 (p_tf r e V) x hb) := by
  refine gq_ofB (l := [(0, .ref (ge_ad X.1 25)), (1, .int e)]) (by decide) (Nat.le_of_ble_eq_true rfl) rfl ?_
  refine gq_iload_n (pc := 0) dX10_takeFromWhereItIs_0 rfl ?_
  refine gq_iconst (pc := 1) dX10_takeFromWhereItIs_1 kc_m1 ?_
  refine gq_cutc (J := 14) ((if e = -1 then -1 else p_sk r e (2 * V) 0)) ?_ (fun J_14 => ?_)
  · refine gq_istore_n (pc := 14) (l' := [(2, _), (0, _), (1, _)]) dX10_takeFromWhereItIs_14 (by decide) rfl ?_
    refine gq_iload_n (pc := 15) dX10_takeFromWhereItIs_15 rfl ?_
    refine gq_if_lt (pc := 16) 26 dX10_takeFromWhereItIs_16 (by decide) (fun h_16 => ?_) (fun h_16 => ?_)
    · exact gq_vret (pc := 26) rfl dX10_takeFromWhereItIs_26 ⟨rfl, by unfold p_tf; first | (rw [if_neg hne, if_neg h_16]; done) | (by_cases hm : e = -1; rw [if_pos hm]; rw [if_neg hm] at h_16 ⊢; rw [if_pos h_16])⟩
    · have hne : ¬ e = -1 := fun z => h_16 (by rw [if_pos z]; decide)
      rw [if_neg hne] at h_16
      obtain ⟨j, -, j2, j3, -⟩ := (p_sk_in r e (2 * V) 0).resolve_left (fun z => h_16 (by rw [z]; decide))
      have j4 : p_n (p_sk r e (2 * V) 0) = j := by rw [j3, p_n_nI (by omega)]
      refine gq_aload_n (pc := 19) dX10_takeFromWhereItIs_19 rfl ?_
      refine gq_getr (pc := 20) dX10_takeFromWhereItIs_20 fl_X10_35_10 sh_25 rfl ?_
      refine gq_iload_n (pc := 23) dX10_takeFromWhereItIs_23 rfl ?_
      refine gq_iconst (pc := 24) dX10_takeFromWhereItIs_24 kc_m1 ?_
      refine kq_ast6 (pw := 25) (pc := 25) (by decide) dX10_takeFromWhereItIs_25 (w := p_n (p_sk r e (2 * V) 0) / 2) (s := p_n (p_sk r e (2 * V) 0) % 2) (by rw [if_neg hne, j4, j3]; exact congrArg nI (by omega)) (by omega) (by omega) ?_
      exact gq_vret (pc := 26) rfl dX10_takeFromWhereItIs_26 ⟨rfl, by unfold p_tf; first | (rw [if_neg hne, if_neg h_16]; done) | (by_cases hm : e = -1; rw [if_pos hm]; rw [if_neg hm] at h_16 ⊢; rw [if_pos h_16])⟩
  · refine gq_ic_ne (pc := 2) 9 dX10_takeFromWhereItIs_2 (by decide) (fun h_2 => ?_) (fun h_2 => ?_)
    · refine gq_aload_n (pc := 9) dX10_takeFromWhereItIs_9 rfl ?_
      refine gq_iload_n (pc := 10) dX10_takeFromWhereItIs_10 rfl ?_
      refine gq_rV1i (pc := 11) dX10_takeFromWhereItIs_11 cv_X10_82 sh_25 (k_sock_25 hV e3) ⟨by decide, by decide⟩ rfl rfl (Nat.le_of_ble_eq_true rfl) ?_
      (refine gq_tov ?_ J_14; first | rw [if_pos h_2] | rw [if_neg h_2])
    · refine gq_iconst (pc := 5) dX10_takeFromWhereItIs_5 kc_m1 ?_
      refine gq_goto (pc := 6) 14 dX10_takeFromWhereItIs_6 (by decide) ?_
      (refine gq_tov ?_ J_14; first | rw [if_pos h_2] | rw [if_neg h_2])
set_option maxHeartbeats 400000 in
theorem k_heed_35 {w : Int32} {i : Nat} (hI : p_inv c r) (hL : c_lw g r) (hw : w = nI i) (hi : i < 6) (h0 : p_e1 (p_o r i 0)) (h1 : p_e1 (p_o r i 1)) : ge_N X ge_SH YX10_heededEye 3 [.ref (ge_ad X.1 35), .int w] (ge_k g 35 r x hb) (some (.int (p_heeded r i))) (ge_k g 35 r x hb) := by
  refine gq_ofB (l := [(0, .ref (ge_ad X.1 35)), (1, .int w)]) (by decide) (Nat.le_of_ble_eq_true rfl) rfl ?_
  refine gq_aload_n (pc := 0) dX10_heededEye_0 rfl ?_
  refine gq_getr (pc := 1) dX10_heededEye_1 fl_X10_35_10 sh_35 rfl ?_
  refine gq_iconst (pc := 4) dX10_heededEye_4 kc_2 ?_
  refine gq_iload_n (pc := 5) dX10_heededEye_5 rfl ?_
  refine gq_imul (pc := 6) dX10_heededEye_6 ?_
  refine gq_iconst (pc := 7) dX10_heededEye_7 kc_0 ?_
  refine gq_iadd (pc := 8) dX10_heededEye_8 ?_
  refine kq_ald6 (pw := 35) (pc := 9) (by decide) dX10_heededEye_9 (ge_nadd (ge_nmul kl_2 hw) kl_0) (by omega) (by omega) ?_
  refine gq_istore_n (pc := 10) (l' := [(2, _), (0, _), (1, _)]) dX10_heededEye_10 (by decide) rfl ?_
  refine gq_aload_n (pc := 11) dX10_heededEye_11 rfl ?_
  refine gq_getr (pc := 12) dX10_heededEye_12 fl_X10_35_10 sh_35 rfl ?_
  refine gq_iconst (pc := 15) dX10_heededEye_15 kc_2 ?_
  refine gq_iload_n (pc := 16) dX10_heededEye_16 rfl ?_
  refine gq_imul (pc := 17) dX10_heededEye_17 ?_
  refine gq_iconst (pc := 18) dX10_heededEye_18 kc_1 ?_
  refine gq_iadd (pc := 19) dX10_heededEye_19 ?_
  refine kq_ald6 (pw := 35) (pc := 20) (by decide) dX10_heededEye_20 (ge_nadd (ge_nmul kl_2 hw) kl_1) (by omega) (by omega) ?_
  refine gq_istore_n (pc := 21) (l' := [(3, _), (2, _), (0, _), (1, _)]) dX10_heededEye_21 (by decide) rfl ?_
  refine gq_iload_n (pc := 22) dX10_heededEye_22 rfl ?_
  refine gq_iconst (pc := 23) dX10_heededEye_23 kc_m1 ?_
  refine gq_ic_ne (pc := 24) 29 dX10_heededEye_24 (by decide) (fun h_24 => ?_) (fun h_24 => ?_)
  · refine gq_iload_n (pc := 29) dX10_heededEye_29 rfl ?_
    refine gq_iconst (pc := 30) dX10_heededEye_30 kc_m1 ?_
    refine gq_ic_ne (pc := 31) 36 dX10_heededEye_31 (by decide) (fun h_31 => ?_) (fun h_31 => ?_)
    · obtain ⟨q0, q1⟩ := p_e1_n h0 h_24
      obtain ⟨q2, q3⟩ := p_e1_n h1 h_31
      refine gq_aload_n (pc := 36) dX10_heededEye_36 rfl ?_
      refine gq_getr (pc := 37) dX10_heededEye_37 fl_X10_9_10 sh_35 rfl ?_
      refine gq_iconst (pc := 40) dX10_heededEye_40 kc_1 ?_
      refine gq_aload_n (pc := 41) dX10_heededEye_41 rfl ?_
      refine gq_iload_n (pc := 42) dX10_heededEye_42 rfl ?_
      refine gq_rV1i (pc := 43) dX10_heededEye_43 cv_X10_105 sh_35 (k_thing_35 hI hL q0 q1) ⟨by decide, by decide⟩ rfl rfl (Nat.le_of_ble_eq_true rfl) ?_
      refine gq_aload_n (pc := 46) dX10_heededEye_46 rfl ?_
      refine gq_iload_n (pc := 47) dX10_heededEye_47 rfl ?_
      refine gq_rV1i (pc := 48) dX10_heededEye_48 cv_X10_105 sh_35 (k_thing_35 hI hL q2 q3) ⟨by decide, by decide⟩ rfl rfl (Nat.le_of_ble_eq_true rfl) ?_
      refine gq_aload_n (pc := 51) dX10_heededEye_51 rfl ?_
      refine kq_get13 (pw := 35) (pc := 52) (by decide) dX10_heededEye_52 fl_X10_69_10 ?_
      refine gq_bipush (pc := 55) dX10_heededEye_55 kb_12 ?_
      refine gq_irem (pc := 57) dX10_heededEye_57 (by decide) (rfl : _ = p_rem _ _) ?_
      refine gq_rV4i (pc := 58) dX10_heededEye_58 cv_X10_90 sh_11 (kw_worth1_35 hL) ⟨by decide, by decide⟩ rfl rfl (Nat.le_of_ble_eq_true rfl) ?_
      refine gq_if_eq (pc := 61) 68 dX10_heededEye_61 (by decide) (fun h_61 => ?_) (fun h_61 => ?_)
      · refine gq_iload_n (pc := 68) dX10_heededEye_68 rfl ?_
        exact gq_iret (pc := 69) rfl dX10_heededEye_69 ⟨by unfold p_heeded; rw [if_neg (fun z => h_24 ((p_e1_m h0).mp z)), if_neg (fun z => h_31 ((p_e1_m h1).mp z))]; first | rw [if_pos h_61] | rw [if_neg h_61], rfl⟩
      · refine gq_iload_n (pc := 64) dX10_heededEye_64 rfl ?_
        refine gq_goto (pc := 65) 69 dX10_heededEye_65 (by decide) ?_
        exact gq_iret (pc := 69) rfl dX10_heededEye_69 ⟨by unfold p_heeded; rw [if_neg (fun z => h_24 ((p_e1_m h0).mp z)), if_neg (fun z => h_31 ((p_e1_m h1).mp z))]; first | rw [if_pos h_61] | rw [if_neg h_61], rfl⟩
    · refine gq_iload_n (pc := 34) dX10_heededEye_34 rfl ?_
      exact gq_iret (pc := 35) rfl dX10_heededEye_35 ⟨by unfold p_heeded; rw [if_neg (fun z => h_24 ((p_e1_m h0).mp z)), if_pos ((p_e1_m h1).mpr h_31)], rfl⟩
  · refine gq_iload_n (pc := 27) dX10_heededEye_27 rfl ?_
    exact gq_iret (pc := 28) rfl dX10_heededEye_28 ⟨by unfold p_heeded; rw [if_pos ((p_e1_m h0).mpr h_24)], rfl⟩
set_option maxHeartbeats 400000 in
theorem k_wearOn_35 {e : Int32} (hI : p_inv c r) (h0 : p_e1 e) : ge_N X ge_SH YX10_wearOn 1 [.ref (ge_ad X.1 35), .int e] (ge_k g 35 r x hb) none (ge_k g 35 (p_wear r e) x hb) := by
  refine gq_ofB (l := [(0, .ref (ge_ad X.1 35)), (1, .int e)]) (by decide) (Nat.le_of_ble_eq_true rfl) rfl ?_
  refine gq_iload_n (pc := 0) dX10_wearOn_0 rfl ?_
  refine gq_iconst (pc := 1) dX10_wearOn_1 kc_m1 ?_
  refine gq_ic_eq (pc := 2) 25 dX10_wearOn_2 (by decide) (fun h_2 => ?_) (fun h_2 => ?_)
  · exact gq_vret (pc := 25) rfl dX10_wearOn_25 ⟨rfl, by unfold p_wear; first | rw [if_pos ((p_e1_m h0).mpr h_2)] | rw [if_neg (fun z => h_2 ((p_e1_m h0).mp z))]⟩
  · obtain ⟨q0, q1⟩ := p_e1_n h0 h_2
    refine gq_aload_n (pc := 5) dX10_wearOn_5 rfl ?_
    refine gq_getr (pc := 6) dX10_wearOn_6 fl_X10_32_10 sh_35 rfl ?_
    refine gq_iload_n (pc := 9) dX10_wearOn_9 rfl ?_
    refine gq_sipush (pc := 10) dX10_wearOn_10 kq_9999 ?_
    refine gq_aload_n (pc := 13) dX10_wearOn_13 rfl ?_
    refine gq_getr (pc := 14) dX10_wearOn_14 fl_X10_32_10 sh_35 rfl ?_
    refine gq_iload_n (pc := 17) dX10_wearOn_17 rfl ?_
    refine kq_ald5 (pw := 35) (pc := 18) (by decide) dX10_wearOn_18 q0 (by first | decide | omega) ?_
    refine gq_iconst (pc := 19) dX10_wearOn_19 kc_1 ?_
    refine gq_iadd (pc := 20) dX10_wearOn_20 ?_
    refine gq_rS2i (pc := 21) dX10_wearOn_21 cs_X10_114 (k_min _ _) ⟨by decide, by decide⟩ (Nat.le_of_ble_eq_true rfl) ?_
    rw [p_wear_min hI q1]
    refine kq_ast5 (pw := 35) (pc := 24) (by decide) dX10_wearOn_24 q0 (by first | decide | omega) ?_
    exact gq_vret (pc := 25) rfl dX10_wearOn_25 ⟨rfl, by unfold p_wear; first | rw [if_pos ((p_e1_m h0).mpr h_2)] | rw [if_neg (fun z => h_2 ((p_e1_m h0).mp z))]⟩
set_option maxHeartbeats 1000000 in
theorem k_sock_35 {e : Int32} {V : Nat} (hV : V ≤ 6) (e3 : r 3 = nI V) : ge_N X ge_SH YX10_socketOf 0 [.ref (ge_ad X.1 35), .int e] (ge_k g 35 r x hb) (some (.int (p_sk r e (2 * V) 0))) (ge_k g 35 r x hb) := by
  refine gq_ofB (l := [(0, .ref (ge_ad X.1 35)), (1, .int e)]) (by decide) (Nat.le_of_ble_eq_true rfl) rfl ?_
  generalize hR : p_sk r e (2 * V) 0 = R
  have key : ∀ (m i : Nat), i + m = 2 * V → p_sk r e m i = R → ge_B X ge_SH YX10_socketOf 0 (fun v2 g2 => v2 = some (.int R) ∧ g2 = (ge_k g 35 r x hb)) 2 [(2, .int (nI i)), (0, .ref (ge_ad X.1 35)), (1, .int e)] [] (ge_k g 35 r x hb) := by
    intro m
    induction m with
    | zero =>
      intro i hi he
      subst he
      refine gq_iload_n (pc := 2) dX10_socketOf_2 rfl ?_
      refine gq_iconst (pc := 3) dX10_socketOf_3 kc_2 ?_
      refine gq_aload_n (pc := 4) dX10_socketOf_4 rfl ?_
      refine kq_get12 (pw := 35) (pc := 5) (by decide) dX10_socketOf_5 fl_X10_66_10 ?_
      refine gq_imul (pc := 8) dX10_socketOf_8 ?_
      rw [e3, show (2 : Int32) * nI V = nI (2 * V) from pk_mul 2 V]
      refine gq_ic_ge (pc := 9) 30 dX10_socketOf_9 (by decide) (fun h_9 => ?_) (fun h_9 => ?_)
      · refine gq_iconst (pc := 30) dX10_socketOf_30 kc_m1 ?_
        exact gq_iret (pc := 31) rfl dX10_socketOf_31 ⟨rfl, rfl⟩
      · exact absurd ((nI_leI (by omega) (by omega)).mpr (by omega)) h_9
    | succ m ih =>
      intro i hi he
      rw [p_sk_s] at he
      refine gq_iload_n (pc := 2) dX10_socketOf_2 rfl ?_
      refine gq_iconst (pc := 3) dX10_socketOf_3 kc_2 ?_
      refine gq_aload_n (pc := 4) dX10_socketOf_4 rfl ?_
      refine kq_get12 (pw := 35) (pc := 5) (by decide) dX10_socketOf_5 fl_X10_66_10 ?_
      refine gq_imul (pc := 8) dX10_socketOf_8 ?_
      rw [e3, show (2 : Int32) * nI V = nI (2 * V) from pk_mul 2 V]
      refine gq_ic_ge (pc := 9) 30 dX10_socketOf_9 (by decide) (fun h_9 => ?_) (fun h_9 => ?_)
      · exact absurd ((nI_leI (by omega) (by omega)).mp h_9) (by omega)
      · refine gq_aload_n (pc := 12) dX10_socketOf_12 rfl ?_
        refine gq_getr (pc := 13) dX10_socketOf_13 fl_X10_35_10 sh_35 rfl ?_
        refine gq_iload_n (pc := 16) dX10_socketOf_16 rfl ?_
        refine kq_ald6 (pw := 35) (pc := 17) (by decide) dX10_socketOf_17 (w := i / 2) (s := i % 2) (congrArg nI (by omega)) (by omega) (by omega) ?_
        refine gq_iload_n (pc := 18) dX10_socketOf_18 rfl ?_
        refine gq_ic_ne (pc := 19) 24 dX10_socketOf_19 (by decide) (fun h_19 => ?_) (fun h_19 => ?_)
        · rw [if_neg h_19] at he
          refine gq_iinc (pc := 24) (l' := [(2, _), (0, _), (1, _)]) dX10_socketOf_24 rfl (ge_inc1 i) (by decide) rfl ?_
          refine gq_goto (pc := 27) 2 dX10_socketOf_27 (by decide) ?_
          exact ih (i + 1) (by omega) he
        · rw [if_pos h_19] at he
          subst he
          refine gq_iload_n (pc := 22) dX10_socketOf_22 rfl ?_
          exact gq_iret (pc := 23) rfl dX10_socketOf_23 ⟨rfl, rfl⟩
  refine gq_iconst (pc := 0) dX10_socketOf_0 kc_0 ?_
  refine gq_istore_n (pc := 1) (l' := [(2, _), (0, _), (1, _)]) dX10_socketOf_1 (by decide) rfl ?_
  exact key (2 * V) 0 (by omega) hR
set_option maxHeartbeats 400000 in
theorem k_tf_35 {e : Int32} {V : Nat} (hV : V ≤ 6) (e3 : r 3 = nI V) : ge_N X ge_SH YX10_takeFromWhereItIs 1 [.ref (ge_ad X.1 35), .int e] (ge_k g 35 r x hb) none (ge_k g 35 (p_tf r e V) x hb) := by
  refine gq_ofB (l := [(0, .ref (ge_ad X.1 35)), (1, .int e)]) (by decide) (Nat.le_of_ble_eq_true rfl) rfl ?_
  refine gq_iload_n (pc := 0) dX10_takeFromWhereItIs_0 rfl ?_
  refine gq_iconst (pc := 1) dX10_takeFromWhereItIs_1 kc_m1 ?_
  refine gq_cutc (J := 14) ((if e = -1 then -1 else p_sk r e (2 * V) 0)) ?_ (fun J_14 => ?_)
  · refine gq_istore_n (pc := 14) (l' := [(2, _), (0, _), (1, _)]) dX10_takeFromWhereItIs_14 (by decide) rfl ?_
    refine gq_iload_n (pc := 15) dX10_takeFromWhereItIs_15 rfl ?_
    refine gq_if_lt (pc := 16) 26 dX10_takeFromWhereItIs_16 (by decide) (fun h_16 => ?_) (fun h_16 => ?_)
    · exact gq_vret (pc := 26) rfl dX10_takeFromWhereItIs_26 ⟨rfl, by unfold p_tf; first | (rw [if_neg hne, if_neg h_16]; done) | (by_cases hm : e = -1; rw [if_pos hm]; rw [if_neg hm] at h_16 ⊢; rw [if_pos h_16])⟩
    · have hne : ¬ e = -1 := fun z => h_16 (by rw [if_pos z]; decide)
      rw [if_neg hne] at h_16
      obtain ⟨j, -, j2, j3, -⟩ := (p_sk_in r e (2 * V) 0).resolve_left (fun z => h_16 (by rw [z]; decide))
      have j4 : p_n (p_sk r e (2 * V) 0) = j := by rw [j3, p_n_nI (by omega)]
      refine gq_aload_n (pc := 19) dX10_takeFromWhereItIs_19 rfl ?_
      refine gq_getr (pc := 20) dX10_takeFromWhereItIs_20 fl_X10_35_10 sh_35 rfl ?_
      refine gq_iload_n (pc := 23) dX10_takeFromWhereItIs_23 rfl ?_
      refine gq_iconst (pc := 24) dX10_takeFromWhereItIs_24 kc_m1 ?_
      refine kq_ast6 (pw := 35) (pc := 25) (by decide) dX10_takeFromWhereItIs_25 (w := p_n (p_sk r e (2 * V) 0) / 2) (s := p_n (p_sk r e (2 * V) 0) % 2) (by rw [if_neg hne, j4, j3]; exact congrArg nI (by omega)) (by omega) (by omega) ?_
      exact gq_vret (pc := 26) rfl dX10_takeFromWhereItIs_26 ⟨rfl, by unfold p_tf; first | (rw [if_neg hne, if_neg h_16]; done) | (by_cases hm : e = -1; rw [if_pos hm]; rw [if_neg hm] at h_16 ⊢; rw [if_pos h_16])⟩
  · refine gq_ic_ne (pc := 2) 9 dX10_takeFromWhereItIs_2 (by decide) (fun h_2 => ?_) (fun h_2 => ?_)
    · refine gq_aload_n (pc := 9) dX10_takeFromWhereItIs_9 rfl ?_
      refine gq_iload_n (pc := 10) dX10_takeFromWhereItIs_10 rfl ?_
      refine gq_rV1i (pc := 11) dX10_takeFromWhereItIs_11 cv_X10_82 sh_35 (k_sock_35 hV e3) ⟨by decide, by decide⟩ rfl rfl (Nat.le_of_ble_eq_true rfl) ?_
      (refine gq_tov ?_ J_14; first | rw [if_pos h_2] | rw [if_neg h_2])
    · refine gq_iconst (pc := 5) dX10_takeFromWhereItIs_5 kc_m1 ?_
      refine gq_goto (pc := 6) 14 dX10_takeFromWhereItIs_6 (by decide) ?_
      (refine gq_tov ?_ J_14; first | rw [if_pos h_2] | rw [if_neg h_2])
end W5
