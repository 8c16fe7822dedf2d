section P1
variable {X : ge_X} {g : ge_G} {r f : Nat → Int32} {u n : Nat}
set_option maxHeartbeats 400000 in
theorem x_in (v a b : Int32) : ge_Ret X ge_SH YX12_in 0 [.int v, .int a, .int b] g (some (.int (p_in v a b))) g := by
  refine ge_ofA (l := [(0, .int v), (1, .int a), (2, .int b)]) (by decide) (Nat.le_of_ble_eq_true rfl) rfl ?_
  refine ge_iload_n (pc := 0) dX12_in_0 rfl ?_
  refine ge_iload_n (pc := 1) dX12_in_1 rfl ?_
  refine ge_ic_lt (pc := 2) 14 dX12_in_2 (by decide) (fun h_2 => ?_) (fun h_2 => ?_)
  · refine ge_iconst (pc := 14) dX12_in_14 kc_0 ?_
    exact ge_zret (pc := 15) rfl rfl dX12_in_15 ⟨by simp only [p_in, *, if_true, if_false], rfl⟩
  · refine ge_iload_n (pc := 5) dX12_in_5 rfl ?_
    refine ge_iload_n (pc := 6) dX12_in_6 rfl ?_
    refine ge_ic_gt (pc := 7) 14 dX12_in_7 (by decide) (fun h_7 => ?_) (fun h_7 => ?_)
    · refine ge_iconst (pc := 14) dX12_in_14 kc_0 ?_
      exact ge_zret (pc := 15) rfl rfl dX12_in_15 ⟨by simp only [p_in, *, if_true, if_false], rfl⟩
    · refine ge_iconst (pc := 10) dX12_in_10 kc_1 ?_
      refine ge_goto (pc := 11) 15 dX12_in_11 (by decide) ?_
      exact ge_zret (pc := 15) rfl rfl dX12_in_15 ⟨by simp only [p_in, *, if_true, if_false], rfl⟩
set_option maxHeartbeats 400000 in
theorem x_isDigit (e : Int32) : ge_Ret X ge_SH YX12_isDigit 1 [.int e] g (some (.int (p_in e 48 57))) g := by
  refine ge_ofA (l := [(0, .int e)]) (by decide) (Nat.le_of_ble_eq_true rfl) rfl ?_
  refine ge_iload_n (pc := 0) dX12_isDigit_0 rfl ?_
  refine ge_bipush (pc := 1) dX12_isDigit_1 kb_48 ?_
  refine ge_bipush (pc := 3) dX12_isDigit_3 kb_57 ?_
  refine ge_rS3i (pc := 5) dX12_isDigit_5 cs_X12_41 (x_in _ _ _) ⟨by decide, by decide⟩ (Nat.le_of_ble_eq_true rfl) ?_
  exact ge_zret (pc := 8) rfl (p_in_b _ _ _) dX12_isDigit_8 ⟨rfl, rfl⟩
set_option maxHeartbeats 400000 in
theorem x_fails {a o : Nat} {q : Bool} : ge_Ret X ge_SH YX12_fails 0 [.ref (ge_ad X.1 76)] (ge_m g r (p_fw f a o q)) (some (.int 0)) (ge_m g r (p_fw f a o false)) := by
  refine ge_ofA (l := [(0, .ref (ge_ad X.1 76))]) (by decide) (Nat.le_of_ble_eq_true rfl) rfl ?_
  refine ge_aload_n (pc := 0) dX12_fails_0 rfl ?_
  refine ge_iconst (pc := 1) dX12_fails_1 kc_0 ?_
  refine gw_gd (pc := 2) dX12_fails_2 fp_X12_104_12 sh_76 rfl p_b_f.symm ?_
  refine ge_iconst (pc := 5) dX12_fails_5 kc_0 ?_
  exact ge_iret (pc := 6) rfl dX12_fails_6 ⟨rfl, rfl⟩
set_option maxHeartbeats 400000 in
theorem x_byteAt {a o k : Nat} {q : Bool} {i : Int32} (hu : f 7 = nI u) (hn : f 9 = nI n) (hu2 : u < 2) (hn2 : n ≤ 50) (hk : i = nI k) (hk2 : k ≤ 50) : ge_Ret X ge_SH YX12_byteAt 0 [.ref (ge_ad X.1 76), .int i] (ge_m g r (p_fw f a o q)) (some (.int (e_b r u n k))) (ge_m g r (p_fw f a o q)) := by
  refine ge_ofA (l := [(0, .ref (ge_ad X.1 76)), (1, .int i)]) (by decide) (Nat.le_of_ble_eq_true rfl) rfl ?_
  refine ge_iload_n (pc := 0) dX12_byteAt_0 rfl ?_
  refine ge_aload_n (pc := 1) dX12_byteAt_1 rfl ?_
  refine gw_get (v := nI n) (pc := 2) dX12_byteAt_2 fl_X12_97_12 sh_76 rfl hn ?_
  refine ge_ic_ge (pc := 5) 29 dX12_byteAt_5 (by decide) (fun h_5 => ?_) (fun h_5 => ?_)
  · have hk3 : ¬ k < n := Nat.not_lt.mpr ((nI_leI (by omega) (by omega)).mp (hk ▸ h_5))
    refine ge_iconst (pc := 29) dX12_byteAt_29 kc_m1 ?_
    exact ge_iret (pc := 30) rfl dX12_byteAt_30 ⟨by simp [e_b, hk3], rfl⟩
  · have hk3 : k < n := Nat.lt_of_not_le fun z => h_5 (by rw [hk]; exact (nI_leI (by omega) (by omega)).mpr z)
    refine ge_aload_n (pc := 8) dX12_byteAt_8 rfl ?_
    refine ge_getr (pc := 9) dX12_byteAt_9 fl_X12_7_12 sh_76 rfl ?_
    refine ge_sipush (pc := 12) dX12_byteAt_12 kq_144 ?_
    refine ge_bipush (pc := 15) dX12_byteAt_15 kb_50 ?_
    refine ge_aload_n (pc := 17) dX12_byteAt_17 rfl ?_
    refine gw_get (v := nI u) (pc := 18) dX12_byteAt_18 fl_X12_101_12 sh_76 rfl hu ?_
    refine ge_imul (pc := 21) dX12_byteAt_21 ?_
    refine ge_iadd (pc := 22) dX12_byteAt_22 ?_
    refine ge_iload_n (pc := 23) dX12_byteAt_23 rfl ?_
    refine ge_iadd (pc := 24) dX12_byteAt_24 ?_
    refine gm_ald (pc := 25) dX12_byteAt_25 (ge_nadd (ge_nadd kl_144 (ge_nmul kl_50 rfl)) hk) (by omega) ?_
    refine ge_goto (pc := 26) 30 dX12_byteAt_26 (by decide) ?_
    exact ge_iret (pc := 30) rfl dX12_byteAt_30 ⟨by simp [e_b, hk3], rfl⟩
theorem e_num_0 (b : Nat → Int32) (a : Nat) (v : Int32) : e_num b 0 a v = (a, v) := rfl
theorem e_num_n (b : Nat → Int32) (F a : Nat) (v : Int32) (h : p_in (b a) 48 57 = 0) : e_num b (F + 1) a v = (a, v) := if_pos h
theorem e_num_y (b : Nat → Int32) (F a : Nat) (v : Int32) (h : ¬ p_in (b a) 48 57 = 0) : e_num b (F + 1) a v = e_num b F (a + 1) (10 * v + b a - 48) := if_neg h
set_option maxHeartbeats 400000 in
theorem x_number {a o : Nat} {q : Bool} (hu : f 7 = nI u) (hn : f 9 = nI n) (hu2 : u < 2) (hn2 : n ≤ 50) (ha : a ≤ n) : ge_Ret X ge_SH YX12_number 2 [.ref (ge_ad X.1 76)] (ge_m g r (p_fw f a o q)) (some (.int (e_num (e_b r u n) 4 a 0).2)) (ge_m g r (p_fw f (e_num (e_b r u n) 4 a 0).1 o q)) := by
  refine ge_ofA (l := [(0, .ref (ge_ad X.1 76))]) (by decide) (Nat.le_of_ble_eq_true rfl) rfl ?_
  generalize hR : e_num (e_b r u n) 4 a 0 = R
  have key : ∀ (F c a : Nat) (v : Int32), c + F = 4 → a ≤ n → e_num (e_b r u n) F a v = R → ge_A X ge_SH YX12_number 2 (fun v2 g2 => v2 = some (.int R.2) ∧ g2 = (ge_m g r (p_fw f R.1 o q))) 4 [(2, .int (nI c)), (1, .int v), (0, .ref (ge_ad X.1 76))] [] (ge_m g r (p_fw f a o q)) := by
    intro F
    induction F with
    | zero =>
      intro c a v hc ha he
      obtain rfl : c = 4 := by omega
      subst he
      refine ge_iload_n (pc := 4) dX12_number_4 rfl ?_
      refine ge_iconst (pc := 5) dX12_number_5 kc_4 ?_
      refine ge_ic_ge (pc := 6) 56 dX12_number_6 (by decide) (fun h_6 => ?_) (fun h_6 => ?_)
      · refine ge_iload_n (pc := 56) dX12_number_56 rfl ?_
        exact ge_iret (pc := 57) rfl dX12_number_57 ⟨rfl, rfl⟩
      · exact absurd (Int32.le_refl _) h_6
    | succ F ih =>
      intro c a v hc ha he
      have hne : ¬ (4 : Int32) ≤ nI c := fun z => by have := (nI_leI (a := 4) (by omega) (by omega)).mp z; omega
      refine ge_iload_n (pc := 4) dX12_number_4 rfl ?_
      refine ge_iconst (pc := 5) dX12_number_5 kc_4 ?_
      refine ge_ic_ge (pc := 6) 56 dX12_number_6 (by decide) (fun h_6 => ?_) (fun h_6 => ?_)
      · exact absurd h_6 hne
      · refine ge_aload_n (pc := 9) dX12_number_9 rfl ?_
        refine ge_aload_n (pc := 10) dX12_number_10 rfl ?_
        refine gw_get (v := nI _) (pc := 11) dX12_number_11 fl_X12_108_12 sh_76 rfl rfl ?_
        refine ge_rV1i (pc := 14) dX12_number_14 cv_X12_111 sh_76 (x_byteAt hu hn hu2 hn2 rfl (by omega)) ⟨by decide, by decide⟩ rfl rfl (Nat.le_of_ble_eq_true rfl) ?_
        refine ge_rS1i (pc := 17) dX12_number_17 cs_X12_114 (x_isDigit _) ⟨by decide, by decide⟩ (Nat.le_of_ble_eq_true rfl) ?_
        refine ge_if_eq (pc := 20) 56 dX12_number_20 (by decide) (fun h_20 => ?_) (fun h_20 => ?_)
        · rw [e_num_n _ _ _ _ h_20] at he
          subst he
          refine ge_iload_n (pc := 56) dX12_number_56 rfl ?_
          exact ge_iret (pc := 57) rfl dX12_number_57 ⟨rfl, rfl⟩
        · rw [e_num_y _ _ _ _ h_20] at he
          have hl : a < n := e_b_lt (r := r) (u := u) (fun z => h_20 (by rw [z]; decide))
          refine ge_bipush (pc := 23) dX12_number_23 kb_10 ?_
          refine ge_iload_n (pc := 25) dX12_number_25 rfl ?_
          refine ge_imul (pc := 26) dX12_number_26 ?_
          refine ge_aload_n (pc := 27) dX12_number_27 rfl ?_
          refine ge_aload_n (pc := 28) dX12_number_28 rfl ?_
          refine gw_get (v := nI _) (pc := 29) dX12_number_29 fl_X12_108_12 sh_76 rfl rfl ?_
          refine ge_rV1i (pc := 32) dX12_number_32 cv_X12_111 sh_76 (x_byteAt hu hn hu2 hn2 rfl (by omega)) ⟨by decide, by decide⟩ rfl rfl (Nat.le_of_ble_eq_true rfl) ?_
          refine ge_iadd (pc := 35) dX12_number_35 ?_
          refine ge_bipush (pc := 36) dX12_number_36 kb_48 ?_
          refine ge_isub (pc := 38) dX12_number_38 ?_
          refine ge_istore_n (pc := 39) (l' := [(1, _), (2, _), (0, _)]) dX12_number_39 (by decide) rfl ?_
          refine ge_aload_n (pc := 40) dX12_number_40 rfl ?_
          refine ge_dup (pc := 41) dX12_number_41 rfl ?_
          refine gw_get (v := nI _) (pc := 42) dX12_number_42 fl_X12_108_12 sh_76 rfl rfl ?_
          refine ge_iconst (pc := 45) dX12_number_45 kc_1 ?_
          refine ge_iadd (pc := 46) dX12_number_46 ?_
          refine gw_at (pc := 47) dX12_number_47 fp_X12_108_12 sh_76 rfl (nI_1 _) ?_
          refine ge_iinc (pc := 50) (l' := [(2, _), (1, _), (0, _)]) dX12_number_50 rfl (ge_inc1 c) (by decide) rfl ?_
          refine ge_goto (pc := 53) 4 dX12_number_53 (by decide) ?_
          exact ih (c + 1) (a + 1) _ (by omega) (by omega) he
  refine ge_iconst (pc := 0) dX12_number_0 kc_0 ?_
  refine ge_istore_n (pc := 1) (l' := [(1, _), (0, _)]) dX12_number_1 (by decide) rfl ?_
  refine ge_iconst (pc := 2) dX12_number_2 kc_0 ?_
  refine ge_istore_n (pc := 3) (l' := [(2, _), (1, _), (0, _)]) dX12_number_3 (by decide) rfl ?_
  exact key 4 0 a 0 rfl ha hR
def e_nmr (o : Option Int32) (a : Nat) : p_R := match o with
  | some v => (true, a + 1, v)
  | none => (false, a, 0)
set_option maxHeartbeats 400000 in
theorem x_named0 {a o : Nat} {c : Int32} (hu : f 7 = 0) : ge_Ret X ge_SH YX12_named 1 [.ref (ge_ad X.1 76), .int c] (ge_m g r (p_fw f a o true)) (some (.int (e_nmr (e_nm 0 (f 11) (f 12) (f 13) c) a).2.2)) (ge_m g r (p_fw f (e_nmr (e_nm 0 (f 11) (f 12) (f 13) c) a).2.1 o (e_nmr (e_nm 0 (f 11) (f 12) (f 13) c) a).1)) := by
  refine ge_ofA (l := [(0, .ref (ge_ad X.1 76)), (1, .int c)]) (by decide) (Nat.le_of_ble_eq_true rfl) rfl ?_
  refine ge_iload_n (pc := 0) dX12_named_0 rfl ?_
  refine ge_aload_n (pc := 1) dX12_named_1 rfl ?_
  refine gw_get (v := 0) (pc := 2) dX12_named_2 fl_X12_101_12 sh_76 rfl hu ?_
  refine ge_if_ne (pc := 5) 13 dX12_named_5 (by decide) (fun h_5 => ?_) (fun h_5 => ?_)
  · exact absurd h_5 (by decide)
  · refine ge_bipush (pc := 8) dX12_named_8 kb_98 ?_
    refine ge_goto (pc := 10) 15 dX12_named_10 (by decide) ?_
    refine ge_ic_ne (pc := 15) 22 dX12_named_15 (by decide) (fun h_15 => ?_) (fun h_15 => ?_)
    · refine ge_iconst (pc := 22) dX12_named_22 kc_0 ?_
      refine ge_istore_n (pc := 23) (l' := [(2, _), (0, _), (1, _)]) dX12_named_23 (by decide) rfl ?_
      refine ge_iload_n (pc := 24) dX12_named_24 rfl ?_
      refine ge_aload_n (pc := 25) dX12_named_25 rfl ?_
      refine gw_get (v := 0) (pc := 26) dX12_named_26 fl_X12_101_12 sh_76 rfl hu ?_
      refine ge_if_ne (pc := 29) 37 dX12_named_29 (by decide) (fun h_29 => ?_) (fun h_29 => ?_)
      · exact absurd h_29 (by decide)
      · refine ge_bipush (pc := 32) dX12_named_32 kb_104 ?_
        refine ge_goto (pc := 34) 39 dX12_named_34 (by decide) ?_
        refine ge_ic_ne (pc := 39) 46 dX12_named_39 (by decide) (fun h_39 => ?_) (fun h_39 => ?_)
        · refine ge_iconst (pc := 46) dX12_named_46 kc_0 ?_
          refine ge_istore_n (pc := 47) (l' := [(3, _), (2, _), (0, _), (1, _)]) dX12_named_47 (by decide) rfl ?_
          refine ge_iload_n (pc := 48) dX12_named_48 rfl ?_
          refine ge_aload_n (pc := 49) dX12_named_49 rfl ?_
          refine gw_get (v := 0) (pc := 50) dX12_named_50 fl_X12_101_12 sh_76 rfl hu ?_
          refine ge_if_ne (pc := 53) 61 dX12_named_53 (by decide) (fun h_53 => ?_) (fun h_53 => ?_)
          · exact absurd h_53 (by decide)
          · refine ge_bipush (pc := 56) dX12_named_56 kb_109 ?_
            refine ge_goto (pc := 58) 63 dX12_named_58 (by decide) ?_
            refine ge_ic_ne (pc := 63) 70 dX12_named_63 (by decide) (fun h_63 => ?_) (fun h_63 => ?_)
            · refine ge_iconst (pc := 70) dX12_named_70 kc_0 ?_
              refine ge_istore (pc := 71) (l' := [(4, _), (3, _), (2, _), (0, _), (1, _)]) dX12_named_71 (by decide) rfl ?_
              refine ge_iload_n (pc := 73) dX12_named_73 rfl ?_
              refine ge_if_ne (pc := 74) 91 dX12_named_74 (by decide) (fun h_74 => ?_) (fun h_74 => ?_)
              · exact absurd h_74 (by decide)
              · refine ge_iload_n (pc := 77) dX12_named_77 rfl ?_
                refine ge_if_ne (pc := 78) 91 dX12_named_78 (by decide) (fun h_78 => ?_) (fun h_78 => ?_)
                · exact absurd h_78 (by decide)
                · refine ge_iload (pc := 81) dX12_named_81 rfl ?_
                  refine ge_if_ne (pc := 83) 91 dX12_named_83 (by decide) (fun h_83 => ?_) (fun h_83 => ?_)
                  · exact absurd h_83 (by decide)
                  · refine ge_aload_n (pc := 86) dX12_named_86 rfl ?_
                    refine ge_rV0i (pc := 87) dX12_named_87 cv_X12_117 sh_76 x_fails ⟨by decide, by decide⟩ rfl rfl (Nat.le_of_ble_eq_true rfl) ?_
                    exact ge_iret (pc := 90) rfl dX12_named_90 (by simp_all [e_nm, e_nmr])
            · refine ge_iconst (pc := 66) dX12_named_66 kc_1 ?_
              refine ge_goto (pc := 67) 71 dX12_named_67 (by decide) ?_
              refine ge_istore (pc := 71) (l' := [(4, _), (3, _), (2, _), (0, _), (1, _)]) dX12_named_71 (by decide) rfl ?_
              refine ge_iload_n (pc := 73) dX12_named_73 rfl ?_
              refine ge_if_ne (pc := 74) 91 dX12_named_74 (by decide) (fun h_74 => ?_) (fun h_74 => ?_)
              · exact absurd h_74 (by decide)
              · refine ge_iload_n (pc := 77) dX12_named_77 rfl ?_
                refine ge_if_ne (pc := 78) 91 dX12_named_78 (by decide) (fun h_78 => ?_) (fun h_78 => ?_)
                · exact absurd h_78 (by decide)
                · refine ge_iload (pc := 81) dX12_named_81 rfl ?_
                  refine ge_if_ne (pc := 83) 91 dX12_named_83 (by decide) (fun h_83 => ?_) (fun h_83 => ?_)
                  · refine ge_aload_n (pc := 91) dX12_named_91 rfl ?_
                    refine ge_dup (pc := 92) dX12_named_92 rfl ?_
                    refine gw_get (v := nI _) (pc := 93) dX12_named_93 fl_X12_108_12 sh_76 rfl rfl ?_
                    refine ge_iconst (pc := 96) dX12_named_96 kc_1 ?_
                    refine ge_iadd (pc := 97) dX12_named_97 ?_
                    refine gw_at (pc := 98) dX12_named_98 fp_X12_108_12 sh_76 rfl (nI_1 _) ?_
                    refine ge_iload_n (pc := 101) dX12_named_101 rfl ?_
                    refine ge_if_eq (pc := 102) 112 dX12_named_102 (by decide) (fun h_102 => ?_) (fun h_102 => ?_)
                    · refine ge_iload_n (pc := 112) dX12_named_112 rfl ?_
                      refine ge_if_eq (pc := 113) 123 dX12_named_113 (by decide) (fun h_113 => ?_) (fun h_113 => ?_)
                      · refine ge_aload_n (pc := 123) dX12_named_123 rfl ?_
                        refine gw_get (v := f 13) (pc := 124) dX12_named_124 fl_X12_127_12 sh_76 rfl rfl ?_
                        exact ge_iret (pc := 127) rfl dX12_named_127 (by simp_all [e_nm, e_nmr])
                      · exact absurd h_113 (by decide)
                    · exact absurd h_102 (by decide)
                  · exact absurd h_83 (by decide)
        · refine ge_iconst (pc := 42) dX12_named_42 kc_1 ?_
          refine ge_goto (pc := 43) 47 dX12_named_43 (by decide) ?_
          refine ge_istore_n (pc := 47) (l' := [(3, _), (2, _), (0, _), (1, _)]) dX12_named_47 (by decide) rfl ?_
          refine ge_iload_n (pc := 48) dX12_named_48 rfl ?_
          refine ge_aload_n (pc := 49) dX12_named_49 rfl ?_
          refine gw_get (v := 0) (pc := 50) dX12_named_50 fl_X12_101_12 sh_76 rfl hu ?_
          refine ge_if_ne (pc := 53) 61 dX12_named_53 (by decide) (fun h_53 => ?_) (fun h_53 => ?_)
          · exact absurd h_53 (by decide)
          · refine ge_bipush (pc := 56) dX12_named_56 kb_109 ?_
            refine ge_goto (pc := 58) 63 dX12_named_58 (by decide) ?_
            refine ge_ic_ne (pc := 63) 70 dX12_named_63 (by decide) (fun h_63 => ?_) (fun h_63 => ?_)
            · refine ge_iconst (pc := 70) dX12_named_70 kc_0 ?_
              refine ge_istore (pc := 71) (l' := [(4, _), (3, _), (2, _), (0, _), (1, _)]) dX12_named_71 (by decide) rfl ?_
              refine ge_iload_n (pc := 73) dX12_named_73 rfl ?_
              refine ge_if_ne (pc := 74) 91 dX12_named_74 (by decide) (fun h_74 => ?_) (fun h_74 => ?_)
              · exact absurd h_74 (by decide)
              · refine ge_iload_n (pc := 77) dX12_named_77 rfl ?_
                refine ge_if_ne (pc := 78) 91 dX12_named_78 (by decide) (fun h_78 => ?_) (fun h_78 => ?_)
                · refine ge_aload_n (pc := 91) dX12_named_91 rfl ?_
                  refine ge_dup (pc := 92) dX12_named_92 rfl ?_
                  refine gw_get (v := nI _) (pc := 93) dX12_named_93 fl_X12_108_12 sh_76 rfl rfl ?_
                  refine ge_iconst (pc := 96) dX12_named_96 kc_1 ?_
                  refine ge_iadd (pc := 97) dX12_named_97 ?_
                  refine gw_at (pc := 98) dX12_named_98 fp_X12_108_12 sh_76 rfl (nI_1 _) ?_
                  refine ge_iload_n (pc := 101) dX12_named_101 rfl ?_
                  refine ge_if_eq (pc := 102) 112 dX12_named_102 (by decide) (fun h_102 => ?_) (fun h_102 => ?_)
                  · refine ge_iload_n (pc := 112) dX12_named_112 rfl ?_
                    refine ge_if_eq (pc := 113) 123 dX12_named_113 (by decide) (fun h_113 => ?_) (fun h_113 => ?_)
                    · exact absurd h_113 (by decide)
                    · refine ge_aload_n (pc := 116) dX12_named_116 rfl ?_
                      refine gw_get (v := f 12) (pc := 117) dX12_named_117 fl_X12_124_12 sh_76 rfl rfl ?_
                      refine ge_goto (pc := 120) 127 dX12_named_120 (by decide) ?_
                      exact ge_iret (pc := 127) rfl dX12_named_127 (by simp_all [e_nm, e_nmr])
                  · exact absurd h_102 (by decide)
                · exact absurd h_78 (by decide)
            · refine ge_iconst (pc := 66) dX12_named_66 kc_1 ?_
              refine ge_goto (pc := 67) 71 dX12_named_67 (by decide) ?_
              refine ge_istore (pc := 71) (l' := [(4, _), (3, _), (2, _), (0, _), (1, _)]) dX12_named_71 (by decide) rfl ?_
              refine ge_iload_n (pc := 73) dX12_named_73 rfl ?_
              refine ge_if_ne (pc := 74) 91 dX12_named_74 (by decide) (fun h_74 => ?_) (fun h_74 => ?_)
              · exact absurd h_74 (by decide)
              · refine ge_iload_n (pc := 77) dX12_named_77 rfl ?_
                refine ge_if_ne (pc := 78) 91 dX12_named_78 (by decide) (fun h_78 => ?_) (fun h_78 => ?_)
                · refine ge_aload_n (pc := 91) dX12_named_91 rfl ?_
                  refine ge_dup (pc := 92) dX12_named_92 rfl ?_
                  refine gw_get (v := nI _) (pc := 93) dX12_named_93 fl_X12_108_12 sh_76 rfl rfl ?_
                  refine ge_iconst (pc := 96) dX12_named_96 kc_1 ?_
                  refine ge_iadd (pc := 97) dX12_named_97 ?_
                  refine gw_at (pc := 98) dX12_named_98 fp_X12_108_12 sh_76 rfl (nI_1 _) ?_
                  refine ge_iload_n (pc := 101) dX12_named_101 rfl ?_
                  refine ge_if_eq (pc := 102) 112 dX12_named_102 (by decide) (fun h_102 => ?_) (fun h_102 => ?_)
                  · refine ge_iload_n (pc := 112) dX12_named_112 rfl ?_
                    refine ge_if_eq (pc := 113) 123 dX12_named_113 (by decide) (fun h_113 => ?_) (fun h_113 => ?_)
                    · exact absurd h_113 (by decide)
                    · refine ge_aload_n (pc := 116) dX12_named_116 rfl ?_
                      refine gw_get (v := f 12) (pc := 117) dX12_named_117 fl_X12_124_12 sh_76 rfl rfl ?_
                      refine ge_goto (pc := 120) 127 dX12_named_120 (by decide) ?_
                      exact ge_iret (pc := 127) rfl dX12_named_127 (by simp_all [e_nm, e_nmr])
                  · exact absurd h_102 (by decide)
                · exact absurd h_78 (by decide)
    · refine ge_iconst (pc := 18) dX12_named_18 kc_1 ?_
      refine ge_goto (pc := 19) 23 dX12_named_19 (by decide) ?_
      refine ge_istore_n (pc := 23) (l' := [(2, _), (0, _), (1, _)]) dX12_named_23 (by decide) rfl ?_
      refine ge_iload_n (pc := 24) dX12_named_24 rfl ?_
      refine ge_aload_n (pc := 25) dX12_named_25 rfl ?_
      refine gw_get (v := 0) (pc := 26) dX12_named_26 fl_X12_101_12 sh_76 rfl hu ?_
      refine ge_if_ne (pc := 29) 37 dX12_named_29 (by decide) (fun h_29 => ?_) (fun h_29 => ?_)
      · exact absurd h_29 (by decide)
      · refine ge_bipush (pc := 32) dX12_named_32 kb_104 ?_
        refine ge_goto (pc := 34) 39 dX12_named_34 (by decide) ?_
        refine ge_ic_ne (pc := 39) 46 dX12_named_39 (by decide) (fun h_39 => ?_) (fun h_39 => ?_)
        · refine ge_iconst (pc := 46) dX12_named_46 kc_0 ?_
          refine ge_istore_n (pc := 47) (l' := [(3, _), (2, _), (0, _), (1, _)]) dX12_named_47 (by decide) rfl ?_
          refine ge_iload_n (pc := 48) dX12_named_48 rfl ?_
          refine ge_aload_n (pc := 49) dX12_named_49 rfl ?_
          refine gw_get (v := 0) (pc := 50) dX12_named_50 fl_X12_101_12 sh_76 rfl hu ?_
          refine ge_if_ne (pc := 53) 61 dX12_named_53 (by decide) (fun h_53 => ?_) (fun h_53 => ?_)
          · exact absurd h_53 (by decide)
          · refine ge_bipush (pc := 56) dX12_named_56 kb_109 ?_
            refine ge_goto (pc := 58) 63 dX12_named_58 (by decide) ?_
            refine ge_ic_ne (pc := 63) 70 dX12_named_63 (by decide) (fun h_63 => ?_) (fun h_63 => ?_)
            · refine ge_iconst (pc := 70) dX12_named_70 kc_0 ?_
              refine ge_istore (pc := 71) (l' := [(4, _), (3, _), (2, _), (0, _), (1, _)]) dX12_named_71 (by decide) rfl ?_
              refine ge_iload_n (pc := 73) dX12_named_73 rfl ?_
              refine ge_if_ne (pc := 74) 91 dX12_named_74 (by decide) (fun h_74 => ?_) (fun h_74 => ?_)
              · refine ge_aload_n (pc := 91) dX12_named_91 rfl ?_
                refine ge_dup (pc := 92) dX12_named_92 rfl ?_
                refine gw_get (v := nI _) (pc := 93) dX12_named_93 fl_X12_108_12 sh_76 rfl rfl ?_
                refine ge_iconst (pc := 96) dX12_named_96 kc_1 ?_
                refine ge_iadd (pc := 97) dX12_named_97 ?_
                refine gw_at (pc := 98) dX12_named_98 fp_X12_108_12 sh_76 rfl (nI_1 _) ?_
                refine ge_iload_n (pc := 101) dX12_named_101 rfl ?_
                refine ge_if_eq (pc := 102) 112 dX12_named_102 (by decide) (fun h_102 => ?_) (fun h_102 => ?_)
                · exact absurd h_102 (by decide)
                · refine ge_aload_n (pc := 105) dX12_named_105 rfl ?_
                  refine gw_get (v := f 11) (pc := 106) dX12_named_106 fl_X12_121_12 sh_76 rfl rfl ?_
                  refine ge_goto (pc := 109) 127 dX12_named_109 (by decide) ?_
                  exact ge_iret (pc := 127) rfl dX12_named_127 (by simp_all [e_nm, e_nmr])
              · exact absurd h_74 (by decide)
            · refine ge_iconst (pc := 66) dX12_named_66 kc_1 ?_
              refine ge_goto (pc := 67) 71 dX12_named_67 (by decide) ?_
              refine ge_istore (pc := 71) (l' := [(4, _), (3, _), (2, _), (0, _), (1, _)]) dX12_named_71 (by decide) rfl ?_
              refine ge_iload_n (pc := 73) dX12_named_73 rfl ?_
              refine ge_if_ne (pc := 74) 91 dX12_named_74 (by decide) (fun h_74 => ?_) (fun h_74 => ?_)
              · refine ge_aload_n (pc := 91) dX12_named_91 rfl ?_
                refine ge_dup (pc := 92) dX12_named_92 rfl ?_
                refine gw_get (v := nI _) (pc := 93) dX12_named_93 fl_X12_108_12 sh_76 rfl rfl ?_
                refine ge_iconst (pc := 96) dX12_named_96 kc_1 ?_
                refine ge_iadd (pc := 97) dX12_named_97 ?_
                refine gw_at (pc := 98) dX12_named_98 fp_X12_108_12 sh_76 rfl (nI_1 _) ?_
                refine ge_iload_n (pc := 101) dX12_named_101 rfl ?_
                refine ge_if_eq (pc := 102) 112 dX12_named_102 (by decide) (fun h_102 => ?_) (fun h_102 => ?_)
                · exact absurd h_102 (by decide)
                · refine ge_aload_n (pc := 105) dX12_named_105 rfl ?_
                  refine gw_get (v := f 11) (pc := 106) dX12_named_106 fl_X12_121_12 sh_76 rfl rfl ?_
                  refine ge_goto (pc := 109) 127 dX12_named_109 (by decide) ?_
                  exact ge_iret (pc := 127) rfl dX12_named_127 (by simp_all [e_nm, e_nmr])
              · exact absurd h_74 (by decide)
        · refine ge_iconst (pc := 42) dX12_named_42 kc_1 ?_
          refine ge_goto (pc := 43) 47 dX12_named_43 (by decide) ?_
          refine ge_istore_n (pc := 47) (l' := [(3, _), (2, _), (0, _), (1, _)]) dX12_named_47 (by decide) rfl ?_
          refine ge_iload_n (pc := 48) dX12_named_48 rfl ?_
          refine ge_aload_n (pc := 49) dX12_named_49 rfl ?_
          refine gw_get (v := 0) (pc := 50) dX12_named_50 fl_X12_101_12 sh_76 rfl hu ?_
          refine ge_if_ne (pc := 53) 61 dX12_named_53 (by decide) (fun h_53 => ?_) (fun h_53 => ?_)
          · exact absurd h_53 (by decide)
          · refine ge_bipush (pc := 56) dX12_named_56 kb_109 ?_
            refine ge_goto (pc := 58) 63 dX12_named_58 (by decide) ?_
            refine ge_ic_ne (pc := 63) 70 dX12_named_63 (by decide) (fun h_63 => ?_) (fun h_63 => ?_)
            · refine ge_iconst (pc := 70) dX12_named_70 kc_0 ?_
              refine ge_istore (pc := 71) (l' := [(4, _), (3, _), (2, _), (0, _), (1, _)]) dX12_named_71 (by decide) rfl ?_
              refine ge_iload_n (pc := 73) dX12_named_73 rfl ?_
              refine ge_if_ne (pc := 74) 91 dX12_named_74 (by decide) (fun h_74 => ?_) (fun h_74 => ?_)
              · refine ge_aload_n (pc := 91) dX12_named_91 rfl ?_
                refine ge_dup (pc := 92) dX12_named_92 rfl ?_
                refine gw_get (v := nI _) (pc := 93) dX12_named_93 fl_X12_108_12 sh_76 rfl rfl ?_
                refine ge_iconst (pc := 96) dX12_named_96 kc_1 ?_
                refine ge_iadd (pc := 97) dX12_named_97 ?_
                refine gw_at (pc := 98) dX12_named_98 fp_X12_108_12 sh_76 rfl (nI_1 _) ?_
                refine ge_iload_n (pc := 101) dX12_named_101 rfl ?_
                refine ge_if_eq (pc := 102) 112 dX12_named_102 (by decide) (fun h_102 => ?_) (fun h_102 => ?_)
                · exact absurd h_102 (by decide)
                · refine ge_aload_n (pc := 105) dX12_named_105 rfl ?_
                  refine gw_get (v := f 11) (pc := 106) dX12_named_106 fl_X12_121_12 sh_76 rfl rfl ?_
                  refine ge_goto (pc := 109) 127 dX12_named_109 (by decide) ?_
                  exact ge_iret (pc := 127) rfl dX12_named_127 (by simp_all [e_nm, e_nmr])
              · exact absurd h_74 (by decide)
            · refine ge_iconst (pc := 66) dX12_named_66 kc_1 ?_
              refine ge_goto (pc := 67) 71 dX12_named_67 (by decide) ?_
              refine ge_istore (pc := 71) (l' := [(4, _), (3, _), (2, _), (0, _), (1, _)]) dX12_named_71 (by decide) rfl ?_
              refine ge_iload_n (pc := 73) dX12_named_73 rfl ?_
              refine ge_if_ne (pc := 74) 91 dX12_named_74 (by decide) (fun h_74 => ?_) (fun h_74 => ?_)
              · refine ge_aload_n (pc := 91) dX12_named_91 rfl ?_
                refine ge_dup (pc := 92) dX12_named_92 rfl ?_
                refine gw_get (v := nI _) (pc := 93) dX12_named_93 fl_X12_108_12 sh_76 rfl rfl ?_
                refine ge_iconst (pc := 96) dX12_named_96 kc_1 ?_
                refine ge_iadd (pc := 97) dX12_named_97 ?_
                refine gw_at (pc := 98) dX12_named_98 fp_X12_108_12 sh_76 rfl (nI_1 _) ?_
                refine ge_iload_n (pc := 101) dX12_named_101 rfl ?_
                refine ge_if_eq (pc := 102) 112 dX12_named_102 (by decide) (fun h_102 => ?_) (fun h_102 => ?_)
                · exact absurd h_102 (by decide)
                · refine ge_aload_n (pc := 105) dX12_named_105 rfl ?_
                  refine gw_get (v := f 11) (pc := 106) dX12_named_106 fl_X12_121_12 sh_76 rfl rfl ?_
                  refine ge_goto (pc := 109) 127 dX12_named_109 (by decide) ?_
                  exact ge_iret (pc := 127) rfl dX12_named_127 (by simp_all [e_nm, e_nmr])
              · exact absurd h_74 (by decide)
set_option maxHeartbeats 400000 in
theorem x_named1 {a o : Nat} {c : Int32} (hu : f 7 = 1) : ge_Ret X ge_SH YX12_named 1 [.ref (ge_ad X.1 76), .int c] (ge_m g r (p_fw f a o true)) (some (.int (e_nmr (e_nm 1 (f 11) (f 12) (f 13) c) a).2.2)) (ge_m g r (p_fw f (e_nmr (e_nm 1 (f 11) (f 12) (f 13) c) a).2.1 o (e_nmr (e_nm 1 (f 11) (f 12) (f 13) c) a).1)) := by
  refine ge_ofA (l := [(0, .ref (ge_ad X.1 76)), (1, .int c)]) (by decide) (Nat.le_of_ble_eq_true rfl) rfl ?_
  refine ge_iload_n (pc := 0) dX12_named_0 rfl ?_
  refine ge_aload_n (pc := 1) dX12_named_1 rfl ?_
  refine gw_get (v := 1) (pc := 2) dX12_named_2 fl_X12_101_12 sh_76 rfl hu ?_
  refine ge_if_ne (pc := 5) 13 dX12_named_5 (by decide) (fun h_5 => ?_) (fun h_5 => ?_)
  · refine ge_bipush (pc := 13) dX12_named_13 kb_108 ?_
    refine ge_ic_ne (pc := 15) 22 dX12_named_15 (by decide) (fun h_15 => ?_) (fun h_15 => ?_)
    · refine ge_iconst (pc := 22) dX12_named_22 kc_0 ?_
      refine ge_istore_n (pc := 23) (l' := [(2, _), (0, _), (1, _)]) dX12_named_23 (by decide) rfl ?_
      refine ge_iload_n (pc := 24) dX12_named_24 rfl ?_
      refine ge_aload_n (pc := 25) dX12_named_25 rfl ?_
      refine gw_get (v := 1) (pc := 26) dX12_named_26 fl_X12_101_12 sh_76 rfl hu ?_
      refine ge_if_ne (pc := 29) 37 dX12_named_29 (by decide) (fun h_29 => ?_) (fun h_29 => ?_)
      · refine ge_bipush (pc := 37) dX12_named_37 kb_114 ?_
        refine ge_ic_ne (pc := 39) 46 dX12_named_39 (by decide) (fun h_39 => ?_) (fun h_39 => ?_)
        · refine ge_iconst (pc := 46) dX12_named_46 kc_0 ?_
          refine ge_istore_n (pc := 47) (l' := [(3, _), (2, _), (0, _), (1, _)]) dX12_named_47 (by decide) rfl ?_
          refine ge_iload_n (pc := 48) dX12_named_48 rfl ?_
          refine ge_aload_n (pc := 49) dX12_named_49 rfl ?_
          refine gw_get (v := 1) (pc := 50) dX12_named_50 fl_X12_101_12 sh_76 rfl hu ?_
          refine ge_if_ne (pc := 53) 61 dX12_named_53 (by decide) (fun h_53 => ?_) (fun h_53 => ?_)
          · refine ge_bipush (pc := 61) dX12_named_61 kb_104 ?_
            refine ge_ic_ne (pc := 63) 70 dX12_named_63 (by decide) (fun h_63 => ?_) (fun h_63 => ?_)
            · refine ge_iconst (pc := 70) dX12_named_70 kc_0 ?_
              refine ge_istore (pc := 71) (l' := [(4, _), (3, _), (2, _), (0, _), (1, _)]) dX12_named_71 (by decide) rfl ?_
              refine ge_iload_n (pc := 73) dX12_named_73 rfl ?_
              refine ge_if_ne (pc := 74) 91 dX12_named_74 (by decide) (fun h_74 => ?_) (fun h_74 => ?_)
              · exact absurd h_74 (by decide)
              · refine ge_iload_n (pc := 77) dX12_named_77 rfl ?_
                refine ge_if_ne (pc := 78) 91 dX12_named_78 (by decide) (fun h_78 => ?_) (fun h_78 => ?_)
                · exact absurd h_78 (by decide)
                · refine ge_iload (pc := 81) dX12_named_81 rfl ?_
                  refine ge_if_ne (pc := 83) 91 dX12_named_83 (by decide) (fun h_83 => ?_) (fun h_83 => ?_)
                  · exact absurd h_83 (by decide)
                  · refine ge_aload_n (pc := 86) dX12_named_86 rfl ?_
                    refine ge_rV0i (pc := 87) dX12_named_87 cv_X12_117 sh_76 x_fails ⟨by decide, by decide⟩ rfl rfl (Nat.le_of_ble_eq_true rfl) ?_
                    exact ge_iret (pc := 90) rfl dX12_named_90 (by simp_all [e_nm, e_nmr])
            · refine ge_iconst (pc := 66) dX12_named_66 kc_1 ?_
              refine ge_goto (pc := 67) 71 dX12_named_67 (by decide) ?_
              refine ge_istore (pc := 71) (l' := [(4, _), (3, _), (2, _), (0, _), (1, _)]) dX12_named_71 (by decide) rfl ?_
              refine ge_iload_n (pc := 73) dX12_named_73 rfl ?_
              refine ge_if_ne (pc := 74) 91 dX12_named_74 (by decide) (fun h_74 => ?_) (fun h_74 => ?_)
              · exact absurd h_74 (by decide)
              · refine ge_iload_n (pc := 77) dX12_named_77 rfl ?_
                refine ge_if_ne (pc := 78) 91 dX12_named_78 (by decide) (fun h_78 => ?_) (fun h_78 => ?_)
                · exact absurd h_78 (by decide)
                · refine ge_iload (pc := 81) dX12_named_81 rfl ?_
                  refine ge_if_ne (pc := 83) 91 dX12_named_83 (by decide) (fun h_83 => ?_) (fun h_83 => ?_)
                  · refine ge_aload_n (pc := 91) dX12_named_91 rfl ?_
                    refine ge_dup (pc := 92) dX12_named_92 rfl ?_
                    refine gw_get (v := nI _) (pc := 93) dX12_named_93 fl_X12_108_12 sh_76 rfl rfl ?_
                    refine ge_iconst (pc := 96) dX12_named_96 kc_1 ?_
                    refine ge_iadd (pc := 97) dX12_named_97 ?_
                    refine gw_at (pc := 98) dX12_named_98 fp_X12_108_12 sh_76 rfl (nI_1 _) ?_
                    refine ge_iload_n (pc := 101) dX12_named_101 rfl ?_
                    refine ge_if_eq (pc := 102) 112 dX12_named_102 (by decide) (fun h_102 => ?_) (fun h_102 => ?_)
                    · refine ge_iload_n (pc := 112) dX12_named_112 rfl ?_
                      refine ge_if_eq (pc := 113) 123 dX12_named_113 (by decide) (fun h_113 => ?_) (fun h_113 => ?_)
                      · refine ge_aload_n (pc := 123) dX12_named_123 rfl ?_
                        refine gw_get (v := f 13) (pc := 124) dX12_named_124 fl_X12_127_12 sh_76 rfl rfl ?_
                        exact ge_iret (pc := 127) rfl dX12_named_127 (by simp_all [e_nm, e_nmr])
                      · exact absurd h_113 (by decide)
                    · exact absurd h_102 (by decide)
                  · exact absurd h_83 (by decide)
          · exact absurd h_53 (by decide)
        · refine ge_iconst (pc := 42) dX12_named_42 kc_1 ?_
          refine ge_goto (pc := 43) 47 dX12_named_43 (by decide) ?_
          refine ge_istore_n (pc := 47) (l' := [(3, _), (2, _), (0, _), (1, _)]) dX12_named_47 (by decide) rfl ?_
          refine ge_iload_n (pc := 48) dX12_named_48 rfl ?_
          refine ge_aload_n (pc := 49) dX12_named_49 rfl ?_
          refine gw_get (v := 1) (pc := 50) dX12_named_50 fl_X12_101_12 sh_76 rfl hu ?_
          refine ge_if_ne (pc := 53) 61 dX12_named_53 (by decide) (fun h_53 => ?_) (fun h_53 => ?_)
          · refine ge_bipush (pc := 61) dX12_named_61 kb_104 ?_
            refine ge_ic_ne (pc := 63) 70 dX12_named_63 (by decide) (fun h_63 => ?_) (fun h_63 => ?_)
            · refine ge_iconst (pc := 70) dX12_named_70 kc_0 ?_
              refine ge_istore (pc := 71) (l' := [(4, _), (3, _), (2, _), (0, _), (1, _)]) dX12_named_71 (by decide) rfl ?_
              refine ge_iload_n (pc := 73) dX12_named_73 rfl ?_
              refine ge_if_ne (pc := 74) 91 dX12_named_74 (by decide) (fun h_74 => ?_) (fun h_74 => ?_)
              · exact absurd h_74 (by decide)
              · refine ge_iload_n (pc := 77) dX12_named_77 rfl ?_
                refine ge_if_ne (pc := 78) 91 dX12_named_78 (by decide) (fun h_78 => ?_) (fun h_78 => ?_)
                · refine ge_aload_n (pc := 91) dX12_named_91 rfl ?_
                  refine ge_dup (pc := 92) dX12_named_92 rfl ?_
                  refine gw_get (v := nI _) (pc := 93) dX12_named_93 fl_X12_108_12 sh_76 rfl rfl ?_
                  refine ge_iconst (pc := 96) dX12_named_96 kc_1 ?_
                  refine ge_iadd (pc := 97) dX12_named_97 ?_
                  refine gw_at (pc := 98) dX12_named_98 fp_X12_108_12 sh_76 rfl (nI_1 _) ?_
                  refine ge_iload_n (pc := 101) dX12_named_101 rfl ?_
                  refine ge_if_eq (pc := 102) 112 dX12_named_102 (by decide) (fun h_102 => ?_) (fun h_102 => ?_)
                  · refine ge_iload_n (pc := 112) dX12_named_112 rfl ?_
                    refine ge_if_eq (pc := 113) 123 dX12_named_113 (by decide) (fun h_113 => ?_) (fun h_113 => ?_)
                    · exact absurd h_113 (by decide)
                    · refine ge_aload_n (pc := 116) dX12_named_116 rfl ?_
                      refine gw_get (v := f 12) (pc := 117) dX12_named_117 fl_X12_124_12 sh_76 rfl rfl ?_
                      refine ge_goto (pc := 120) 127 dX12_named_120 (by decide) ?_
                      exact ge_iret (pc := 127) rfl dX12_named_127 (by simp_all [e_nm, e_nmr])
                  · exact absurd h_102 (by decide)
                · exact absurd h_78 (by decide)
            · refine ge_iconst (pc := 66) dX12_named_66 kc_1 ?_
              refine ge_goto (pc := 67) 71 dX12_named_67 (by decide) ?_
              refine ge_istore (pc := 71) (l' := [(4, _), (3, _), (2, _), (0, _), (1, _)]) dX12_named_71 (by decide) rfl ?_
              refine ge_iload_n (pc := 73) dX12_named_73 rfl ?_
              refine ge_if_ne (pc := 74) 91 dX12_named_74 (by decide) (fun h_74 => ?_) (fun h_74 => ?_)
              · exact absurd h_74 (by decide)
              · refine ge_iload_n (pc := 77) dX12_named_77 rfl ?_
                refine ge_if_ne (pc := 78) 91 dX12_named_78 (by decide) (fun h_78 => ?_) (fun h_78 => ?_)
                · refine ge_aload_n (pc := 91) dX12_named_91 rfl ?_
                  refine ge_dup (pc := 92) dX12_named_92 rfl ?_
                  refine gw_get (v := nI _) (pc := 93) dX12_named_93 fl_X12_108_12 sh_76 rfl rfl ?_
                  refine ge_iconst (pc := 96) dX12_named_96 kc_1 ?_
                  refine ge_iadd (pc := 97) dX12_named_97 ?_
                  refine gw_at (pc := 98) dX12_named_98 fp_X12_108_12 sh_76 rfl (nI_1 _) ?_
                  refine ge_iload_n (pc := 101) dX12_named_101 rfl ?_
                  refine ge_if_eq (pc := 102) 112 dX12_named_102 (by decide) (fun h_102 => ?_) (fun h_102 => ?_)
                  · refine ge_iload_n (pc := 112) dX12_named_112 rfl ?_
                    refine ge_if_eq (pc := 113) 123 dX12_named_113 (by decide) (fun h_113 => ?_) (fun h_113 => ?_)
                    · exact absurd h_113 (by decide)
                    · refine ge_aload_n (pc := 116) dX12_named_116 rfl ?_
                      refine gw_get (v := f 12) (pc := 117) dX12_named_117 fl_X12_124_12 sh_76 rfl rfl ?_
                      refine ge_goto (pc := 120) 127 dX12_named_120 (by decide) ?_
                      exact ge_iret (pc := 127) rfl dX12_named_127 (by simp_all [e_nm, e_nmr])
                  · exact absurd h_102 (by decide)
                · exact absurd h_78 (by decide)
          · exact absurd h_53 (by decide)
      · exact absurd h_29 (by decide)
    · refine ge_iconst (pc := 18) dX12_named_18 kc_1 ?_
      refine ge_goto (pc := 19) 23 dX12_named_19 (by decide) ?_
      refine ge_istore_n (pc := 23) (l' := [(2, _), (0, _), (1, _)]) dX12_named_23 (by decide) rfl ?_
      refine ge_iload_n (pc := 24) dX12_named_24 rfl ?_
      refine ge_aload_n (pc := 25) dX12_named_25 rfl ?_
      refine gw_get (v := 1) (pc := 26) dX12_named_26 fl_X12_101_12 sh_76 rfl hu ?_
      refine ge_if_ne (pc := 29) 37 dX12_named_29 (by decide) (fun h_29 => ?_) (fun h_29 => ?_)
      · refine ge_bipush (pc := 37) dX12_named_37 kb_114 ?_
        refine ge_ic_ne (pc := 39) 46 dX12_named_39 (by decide) (fun h_39 => ?_) (fun h_39 => ?_)
        · refine ge_iconst (pc := 46) dX12_named_46 kc_0 ?_
          refine ge_istore_n (pc := 47) (l' := [(3, _), (2, _), (0, _), (1, _)]) dX12_named_47 (by decide) rfl ?_
          refine ge_iload_n (pc := 48) dX12_named_48 rfl ?_
          refine ge_aload_n (pc := 49) dX12_named_49 rfl ?_
          refine gw_get (v := 1) (pc := 50) dX12_named_50 fl_X12_101_12 sh_76 rfl hu ?_
          refine ge_if_ne (pc := 53) 61 dX12_named_53 (by decide) (fun h_53 => ?_) (fun h_53 => ?_)
          · refine ge_bipush (pc := 61) dX12_named_61 kb_104 ?_
            refine ge_ic_ne (pc := 63) 70 dX12_named_63 (by decide) (fun h_63 => ?_) (fun h_63 => ?_)
            · refine ge_iconst (pc := 70) dX12_named_70 kc_0 ?_
              refine ge_istore (pc := 71) (l' := [(4, _), (3, _), (2, _), (0, _), (1, _)]) dX12_named_71 (by decide) rfl ?_
              refine ge_iload_n (pc := 73) dX12_named_73 rfl ?_
              refine ge_if_ne (pc := 74) 91 dX12_named_74 (by decide) (fun h_74 => ?_) (fun h_74 => ?_)
              · refine ge_aload_n (pc := 91) dX12_named_91 rfl ?_
                refine ge_dup (pc := 92) dX12_named_92 rfl ?_
                refine gw_get (v := nI _) (pc := 93) dX12_named_93 fl_X12_108_12 sh_76 rfl rfl ?_
                refine ge_iconst (pc := 96) dX12_named_96 kc_1 ?_
                refine ge_iadd (pc := 97) dX12_named_97 ?_
                refine gw_at (pc := 98) dX12_named_98 fp_X12_108_12 sh_76 rfl (nI_1 _) ?_
                refine ge_iload_n (pc := 101) dX12_named_101 rfl ?_
                refine ge_if_eq (pc := 102) 112 dX12_named_102 (by decide) (fun h_102 => ?_) (fun h_102 => ?_)
                · exact absurd h_102 (by decide)
                · refine ge_aload_n (pc := 105) dX12_named_105 rfl ?_
                  refine gw_get (v := f 11) (pc := 106) dX12_named_106 fl_X12_121_12 sh_76 rfl rfl ?_
                  refine ge_goto (pc := 109) 127 dX12_named_109 (by decide) ?_
                  exact ge_iret (pc := 127) rfl dX12_named_127 (by simp_all [e_nm, e_nmr])
              · exact absurd h_74 (by decide)
            · refine ge_iconst (pc := 66) dX12_named_66 kc_1 ?_
              refine ge_goto (pc := 67) 71 dX12_named_67 (by decide) ?_
              refine ge_istore (pc := 71) (l' := [(4, _), (3, _), (2, _), (0, _), (1, _)]) dX12_named_71 (by decide) rfl ?_
              refine ge_iload_n (pc := 73) dX12_named_73 rfl ?_
              refine ge_if_ne (pc := 74) 91 dX12_named_74 (by decide) (fun h_74 => ?_) (fun h_74 => ?_)
              · refine ge_aload_n (pc := 91) dX12_named_91 rfl ?_
                refine ge_dup (pc := 92) dX12_named_92 rfl ?_
                refine gw_get (v := nI _) (pc := 93) dX12_named_93 fl_X12_108_12 sh_76 rfl rfl ?_
                refine ge_iconst (pc := 96) dX12_named_96 kc_1 ?_
                refine ge_iadd (pc := 97) dX12_named_97 ?_
                refine gw_at (pc := 98) dX12_named_98 fp_X12_108_12 sh_76 rfl (nI_1 _) ?_
                refine ge_iload_n (pc := 101) dX12_named_101 rfl ?_
                refine ge_if_eq (pc := 102) 112 dX12_named_102 (by decide) (fun h_102 => ?_) (fun h_102 => ?_)
                · exact absurd h_102 (by decide)
                · refine ge_aload_n (pc := 105) dX12_named_105 rfl ?_
                  refine gw_get (v := f 11) (pc := 106) dX12_named_106 fl_X12_121_12 sh_76 rfl rfl ?_
                  refine ge_goto (pc := 109) 127 dX12_named_109 (by decide) ?_
                  exact ge_iret (pc := 127) rfl dX12_named_127 (by simp_all [e_nm, e_nmr])
              · exact absurd h_74 (by decide)
          · exact absurd h_53 (by decide)
        · refine ge_iconst (pc := 42) dX12_named_42 kc_1 ?_
          refine ge_goto (pc := 43) 47 dX12_named_43 (by decide) ?_
          refine ge_istore_n (pc := 47) (l' := [(3, _), (2, _), (0, _), (1, _)]) dX12_named_47 (by decide) rfl ?_
          refine ge_iload_n (pc := 48) dX12_named_48 rfl ?_
          refine ge_aload_n (pc := 49) dX12_named_49 rfl ?_
          refine gw_get (v := 1) (pc := 50) dX12_named_50 fl_X12_101_12 sh_76 rfl hu ?_
          refine ge_if_ne (pc := 53) 61 dX12_named_53 (by decide) (fun h_53 => ?_) (fun h_53 => ?_)
          · refine ge_bipush (pc := 61) dX12_named_61 kb_104 ?_
            refine ge_ic_ne (pc := 63) 70 dX12_named_63 (by decide) (fun h_63 => ?_) (fun h_63 => ?_)
            · refine ge_iconst (pc := 70) dX12_named_70 kc_0 ?_
              refine ge_istore (pc := 71) (l' := [(4, _), (3, _), (2, _), (0, _), (1, _)]) dX12_named_71 (by decide) rfl ?_
              refine ge_iload_n (pc := 73) dX12_named_73 rfl ?_
              refine ge_if_ne (pc := 74) 91 dX12_named_74 (by decide) (fun h_74 => ?_) (fun h_74 => ?_)
              · refine ge_aload_n (pc := 91) dX12_named_91 rfl ?_
                refine ge_dup (pc := 92) dX12_named_92 rfl ?_
                refine gw_get (v := nI _) (pc := 93) dX12_named_93 fl_X12_108_12 sh_76 rfl rfl ?_
                refine ge_iconst (pc := 96) dX12_named_96 kc_1 ?_
                refine ge_iadd (pc := 97) dX12_named_97 ?_
                refine gw_at (pc := 98) dX12_named_98 fp_X12_108_12 sh_76 rfl (nI_1 _) ?_
                refine ge_iload_n (pc := 101) dX12_named_101 rfl ?_
                refine ge_if_eq (pc := 102) 112 dX12_named_102 (by decide) (fun h_102 => ?_) (fun h_102 => ?_)
                · exact absurd h_102 (by decide)
                · refine ge_aload_n (pc := 105) dX12_named_105 rfl ?_
                  refine gw_get (v := f 11) (pc := 106) dX12_named_106 fl_X12_121_12 sh_76 rfl rfl ?_
                  refine ge_goto (pc := 109) 127 dX12_named_109 (by decide) ?_
                  exact ge_iret (pc := 127) rfl dX12_named_127 (by simp_all [e_nm, e_nmr])
              · exact absurd h_74 (by decide)
            · refine ge_iconst (pc := 66) dX12_named_66 kc_1 ?_
              refine ge_goto (pc := 67) 71 dX12_named_67 (by decide) ?_
              refine ge_istore (pc := 71) (l' := [(4, _), (3, _), (2, _), (0, _), (1, _)]) dX12_named_71 (by decide) rfl ?_
              refine ge_iload_n (pc := 73) dX12_named_73 rfl ?_
              refine ge_if_ne (pc := 74) 91 dX12_named_74 (by decide) (fun h_74 => ?_) (fun h_74 => ?_)
              · refine ge_aload_n (pc := 91) dX12_named_91 rfl ?_
                refine ge_dup (pc := 92) dX12_named_92 rfl ?_
                refine gw_get (v := nI _) (pc := 93) dX12_named_93 fl_X12_108_12 sh_76 rfl rfl ?_
                refine ge_iconst (pc := 96) dX12_named_96 kc_1 ?_
                refine ge_iadd (pc := 97) dX12_named_97 ?_
                refine gw_at (pc := 98) dX12_named_98 fp_X12_108_12 sh_76 rfl (nI_1 _) ?_
                refine ge_iload_n (pc := 101) dX12_named_101 rfl ?_
                refine ge_if_eq (pc := 102) 112 dX12_named_102 (by decide) (fun h_102 => ?_) (fun h_102 => ?_)
                · exact absurd h_102 (by decide)
                · refine ge_aload_n (pc := 105) dX12_named_105 rfl ?_
                  refine gw_get (v := f 11) (pc := 106) dX12_named_106 fl_X12_121_12 sh_76 rfl rfl ?_
                  refine ge_goto (pc := 109) 127 dX12_named_109 (by decide) ?_
                  exact ge_iret (pc := 127) rfl dX12_named_127 (by simp_all [e_nm, e_nmr])
              · exact absurd h_74 (by decide)
          · exact absurd h_53 (by decide)
      · exact absurd h_29 (by decide)
  · exact absurd h_5 (by decide)
theorem x_named {a o : Nat} {c : Int32} (hu : f 7 = nI u) (hu2 : u < 2) : ge_Ret X ge_SH YX12_named 1 [.ref (ge_ad X.1 76), .int c] (ge_m g r (p_fw f a o true)) (some (.int (e_nmr (e_nm u (f 11) (f 12) (f 13) c) a).2.2)) (ge_m g r (p_fw f (e_nmr (e_nm u (f 11) (f 12) (f 13) c) a).2.1 o (e_nmr (e_nm u (f 11) (f 12) (f 13) c) a).1)) := by
  rcases (by omega : u = 0 ∨ u = 1) with rfl | rfl
  · exact x_named0 hu
  · exact x_named1 hu
section LP
variable {b : Nat → Int32} {sub : Nat → p_R} {isop : Int32 → Bool} {opf : Int32 → Int32 → Int32 → Int32} {F : Nat}
theorem e_lp_y {a : Nat} {v : Int32} (h : isop (b a) = true) : e_lp b sub isop opf (F + 1) (true, a, v) = e_lp b sub isop opf F ((sub (a + 1)).1, (sub (a + 1)).2.1, opf (b a) v (sub (a + 1)).2.2) := if_pos ⟨rfl, h⟩
theorem e_lp_n {a : Nat} {v : Int32} (h : isop (b a) = false) : e_lp b sub isop opf (F + 1) (true, a, v) = (true, a, v) := if_neg (fun z => by simp only [h] at z; exact absurd z.2 (by decide))
theorem e_lp_f {a : Nat} {v : Int32} : e_lp b sub isop opf (F + 1) (false, a, v) = (false, a, v) := if_neg (fun z => Bool.noConfusion (show false = true from z.1))
end LP
set_option maxHeartbeats 1000000 in
theorem x_product {o ds : Nat} {sub : Nat → p_R} (hu : f 7 = nI u) (hn : f 9 = nI n) (hu2 : u < 2) (hn2 : n ≤ 50) (hds : 1 ≤ ds) (hok : e_ok n (sub)) (hs : ∀ a, a ≤ n → ge_Ret X ge_SH YX12_factor ds [.ref (ge_ad X.1 76)] (ge_m g r (p_fw f a o true)) (some (.int (sub a).2.2)) (ge_m g r (p_fw f (sub a).2.1 o (sub a).1))) (a : Nat) (ha : a ≤ n) : ge_Ret X ge_SH YX12_product (ds + 1) [.ref (ge_ad X.1 76)] (ge_m g r (p_fw f a o true)) (some (.int (e_pro (e_b r u n) sub a).2.2)) (ge_m g r (p_fw f (e_pro (e_b r u n) sub a).2.1 o (e_pro (e_b r u n) sub a).1)) := by
  refine ge_ofA (l := [(0, .ref (ge_ad X.1 76))]) (by decide) (Nat.le_of_ble_eq_true rfl) rfl ?_
  generalize hR : e_pro (e_b r u n) sub a = R
  have key : ∀ (F : Nat) (q : Bool) (a : Nat) (v : Int32), a ≤ n → n + 1 ≤ F + a → e_lp (e_b r u n) (sub) e_mulop e_mulf F (q, a, v) = R → ge_A X ge_SH YX12_product (ds + 1) (fun v2 g2 => v2 = some (.int R.2.2) ∧ g2 = (ge_m g r (p_fw f R.2.1 o R.1))) 5 [(1, .int v), (0, .ref (ge_ad X.1 76))] [] (ge_m g r (p_fw f a o q)) := by
    intro F
    induction F with
    | zero => intro q a v h1 h2; omega
    | succ F ih =>
      intro q a v ha hF he
      refine ge_aload_n (pc := 5) dX12_product_5 rfl ?_
      refine gw_get (v := p_b _) (pc := 6) dX12_product_6 fl_X12_104_12 sh_76 rfl rfl ?_
      refine ge_if_eq (pc := 9) 114 dX12_product_9 (by decide) (fun h_9 => ?_) (fun h_9 => ?_)
      · obtain rfl := p_b_0.mp h_9
        rw [e_lp_f] at he
        subst he
        refine ge_iload_n (pc := 114) dX12_product_114 rfl ?_
        exact ge_iret (pc := 115) rfl dX12_product_115 ⟨rfl, rfl⟩
      · obtain rfl := p_b_n.mp h_9
        refine ge_aload_n (pc := 12) dX12_product_12 rfl ?_
        refine ge_aload_n (pc := 13) dX12_product_13 rfl ?_
        refine gw_get (v := nI _) (pc := 14) dX12_product_14 fl_X12_108_12 sh_76 rfl rfl ?_
        refine ge_rV1i (pc := 17) dX12_product_17 cv_X12_111 sh_76 (x_byteAt hu hn hu2 hn2 rfl (by omega)) ⟨by omega, by decide⟩ rfl rfl (Nat.le_of_ble_eq_true rfl) ?_
        refine ge_bipush (pc := 20) dX12_product_20 kb_42 ?_
        refine ge_ic_eq (pc := 22) 51 dX12_product_22 (by decide) (fun h_22 => ?_) (fun h_22 => ?_)
        · have hop : e_mulop (e_b r u n a) = true := by simp [e_mulop, *]
          have hl : a < n := e_op_lt (r := r) (u := u) (n := n) (isop := e_mulop) (by decide) a hop
          rw [e_lp_y hop] at he
          refine ge_aload_n (pc := 51) dX12_product_51 rfl ?_
          refine ge_aload_n (pc := 52) dX12_product_52 rfl ?_
          refine gw_get (v := nI _) (pc := 53) dX12_product_53 fl_X12_108_12 sh_76 rfl rfl ?_
          refine ge_rV1i (pc := 56) dX12_product_56 cv_X12_111 sh_76 (x_byteAt hu hn hu2 hn2 rfl (by omega)) ⟨by omega, by decide⟩ rfl rfl (Nat.le_of_ble_eq_true rfl) ?_
          refine ge_istore_n (pc := 59) (l' := [(2, _), (1, _), (0, _)]) dX12_product_59 (by decide) rfl ?_
          refine ge_aload_n (pc := 60) dX12_product_60 rfl ?_
          refine ge_dup (pc := 61) dX12_product_61 rfl ?_
          refine gw_get (v := nI _) (pc := 62) dX12_product_62 fl_X12_108_12 sh_76 rfl rfl ?_
          refine ge_iconst (pc := 65) dX12_product_65 kc_1 ?_
          refine ge_iadd (pc := 66) dX12_product_66 ?_
          refine gw_at (pc := 67) dX12_product_67 fp_X12_108_12 sh_76 rfl (nI_1 _) ?_
          refine ge_aload_n (pc := 70) dX12_product_70 rfl ?_
          refine ge_rV0i (pc := 71) dX12_product_71 cv_X12_139 sh_76 (hs (a + 1) (by omega)) ⟨by omega, by decide⟩ rfl rfl (Nat.le_of_ble_eq_true rfl) ?_
          refine ge_istore_n (pc := 74) (l' := [(3, _), (2, _), (1, _), (0, _)]) dX12_product_74 (by decide) rfl ?_
          refine ge_iload_n (pc := 75) dX12_product_75 rfl ?_
          refine ge_bipush (pc := 76) dX12_product_76 kb_42 ?_
          refine ge_cutc (J := 110) (e_mulf (e_b r u n a) v (sub (a + 1)).2.2) ?_ (fun J_110 => ?_)
          · refine ge_istore_n (pc := 110) (l' := [(1, _), (3, _), (2, _), (0, _)]) dX12_product_110 (by decide) rfl ?_
            refine ge_goto (pc := 111) 5 dX12_product_111 (by decide) ?_
            refine ge_sub [0, 3] rfl ?_
            exact ih _ _ _ (hok (a + 1) hl).2 (by have := (hok (a + 1) hl).1; omega) he
          · refine ge_ic_ne (pc := 78) 87 dX12_product_78 (by decide) (fun h_78 => ?_) (fun h_78 => ?_)
            · refine ge_iload_n (pc := 87) dX12_product_87 rfl ?_
              refine ge_if_ne (pc := 88) 95 dX12_product_88 (by decide) (fun h_88 => ?_) (fun h_88 => ?_)
              · refine ge_iload_n (pc := 95) dX12_product_95 rfl ?_
                refine ge_bipush (pc := 96) dX12_product_96 kb_47 ?_
                refine ge_ic_ne (pc := 98) 107 dX12_product_98 (by decide) (fun h_98 => ?_) (fun h_98 => ?_)
                · refine ge_iload_n (pc := 107) dX12_product_107 rfl ?_
                  refine ge_iload_n (pc := 108) dX12_product_108 rfl ?_
                  refine ge_irem (pc := 109) dX12_product_109 h_88 rfl ?_
                  (refine ge_tov ?_ J_110; first | (simp [e_mulf, p_rem, *]; done) | (exfalso; simp_all; done))
                · refine ge_iload_n (pc := 101) dX12_product_101 rfl ?_
                  refine ge_iload_n (pc := 102) dX12_product_102 rfl ?_
                  refine ge_idiv (pc := 103) dX12_product_103 h_88 ?_
                  refine ge_goto (pc := 104) 110 dX12_product_104 (by decide) ?_
                  (refine ge_tov ?_ J_110; first | (simp [e_mulf, p_rem, *]; done) | (exfalso; simp_all; done))
              · refine ge_iconst (pc := 91) dX12_product_91 kc_0 ?_
                refine ge_goto (pc := 92) 110 dX12_product_92 (by decide) ?_
                (refine ge_tov ?_ J_110; first | (simp [e_mulf, p_rem, *]; done) | (exfalso; simp_all; done))
            · refine ge_iload_n (pc := 81) dX12_product_81 rfl ?_
              refine ge_iload_n (pc := 82) dX12_product_82 rfl ?_
              refine ge_imul (pc := 83) dX12_product_83 ?_
              refine ge_goto (pc := 84) 110 dX12_product_84 (by decide) ?_
              (refine ge_tov ?_ J_110; first | (simp [e_mulf, p_rem, *]; done) | (exfalso; simp_all; done))
        · refine ge_aload_n (pc := 25) dX12_product_25 rfl ?_
          refine ge_aload_n (pc := 26) dX12_product_26 rfl ?_
          refine gw_get (v := nI _) (pc := 27) dX12_product_27 fl_X12_108_12 sh_76 rfl rfl ?_
          refine ge_rV1i (pc := 30) dX12_product_30 cv_X12_111 sh_76 (x_byteAt hu hn hu2 hn2 rfl (by omega)) ⟨by omega, by decide⟩ rfl rfl (Nat.le_of_ble_eq_true rfl) ?_
          refine ge_bipush (pc := 33) dX12_product_33 kb_47 ?_
          refine ge_ic_eq (pc := 35) 51 dX12_product_35 (by decide) (fun h_35 => ?_) (fun h_35 => ?_)
          · have hop : e_mulop (e_b r u n a) = true := by simp [e_mulop, *]
            have hl : a < n := e_op_lt (r := r) (u := u) (n := n) (isop := e_mulop) (by decide) a hop
            rw [e_lp_y hop] at he
            refine ge_aload_n (pc := 51) dX12_product_51 rfl ?_
            refine ge_aload_n (pc := 52) dX12_product_52 rfl ?_
            refine gw_get (v := nI _) (pc := 53) dX12_product_53 fl_X12_108_12 sh_76 rfl rfl ?_
            refine ge_rV1i (pc := 56) dX12_product_56 cv_X12_111 sh_76 (x_byteAt hu hn hu2 hn2 rfl (by omega)) ⟨by omega, by decide⟩ rfl rfl (Nat.le_of_ble_eq_true rfl) ?_
            refine ge_istore_n (pc := 59) (l' := [(2, _), (1, _), (0, _)]) dX12_product_59 (by decide) rfl ?_
            refine ge_aload_n (pc := 60) dX12_product_60 rfl ?_
            refine ge_dup (pc := 61) dX12_product_61 rfl ?_
            refine gw_get (v := nI _) (pc := 62) dX12_product_62 fl_X12_108_12 sh_76 rfl rfl ?_
            refine ge_iconst (pc := 65) dX12_product_65 kc_1 ?_
            refine ge_iadd (pc := 66) dX12_product_66 ?_
            refine gw_at (pc := 67) dX12_product_67 fp_X12_108_12 sh_76 rfl (nI_1 _) ?_
            refine ge_aload_n (pc := 70) dX12_product_70 rfl ?_
            refine ge_rV0i (pc := 71) dX12_product_71 cv_X12_139 sh_76 (hs (a + 1) (by omega)) ⟨by omega, by decide⟩ rfl rfl (Nat.le_of_ble_eq_true rfl) ?_
            refine ge_istore_n (pc := 74) (l' := [(3, _), (2, _), (1, _), (0, _)]) dX12_product_74 (by decide) rfl ?_
            refine ge_iload_n (pc := 75) dX12_product_75 rfl ?_
            refine ge_bipush (pc := 76) dX12_product_76 kb_42 ?_
            refine ge_cutc (J := 110) (e_mulf (e_b r u n a) v (sub (a + 1)).2.2) ?_ (fun J_110 => ?_)
            · refine ge_istore_n (pc := 110) (l' := [(1, _), (3, _), (2, _), (0, _)]) dX12_product_110 (by decide) rfl ?_
              refine ge_goto (pc := 111) 5 dX12_product_111 (by decide) ?_
              refine ge_sub [0, 3] rfl ?_
              exact ih _ _ _ (hok (a + 1) hl).2 (by have := (hok (a + 1) hl).1; omega) he
            · refine ge_ic_ne (pc := 78) 87 dX12_product_78 (by decide) (fun h_78 => ?_) (fun h_78 => ?_)
              · refine ge_iload_n (pc := 87) dX12_product_87 rfl ?_
                refine ge_if_ne (pc := 88) 95 dX12_product_88 (by decide) (fun h_88 => ?_) (fun h_88 => ?_)
                · refine ge_iload_n (pc := 95) dX12_product_95 rfl ?_
                  refine ge_bipush (pc := 96) dX12_product_96 kb_47 ?_
                  refine ge_ic_ne (pc := 98) 107 dX12_product_98 (by decide) (fun h_98 => ?_) (fun h_98 => ?_)
                  · refine ge_iload_n (pc := 107) dX12_product_107 rfl ?_
                    refine ge_iload_n (pc := 108) dX12_product_108 rfl ?_
                    refine ge_irem (pc := 109) dX12_product_109 h_88 rfl ?_
                    (refine ge_tov ?_ J_110; first | (simp [e_mulf, p_rem, *]; done) | (exfalso; simp_all; done))
                  · refine ge_iload_n (pc := 101) dX12_product_101 rfl ?_
                    refine ge_iload_n (pc := 102) dX12_product_102 rfl ?_
                    refine ge_idiv (pc := 103) dX12_product_103 h_88 ?_
                    refine ge_goto (pc := 104) 110 dX12_product_104 (by decide) ?_
                    (refine ge_tov ?_ J_110; first | (simp [e_mulf, p_rem, *]; done) | (exfalso; simp_all; done))
                · refine ge_iconst (pc := 91) dX12_product_91 kc_0 ?_
                  refine ge_goto (pc := 92) 110 dX12_product_92 (by decide) ?_
                  (refine ge_tov ?_ J_110; first | (simp [e_mulf, p_rem, *]; done) | (exfalso; simp_all; done))
              · refine ge_iload_n (pc := 81) dX12_product_81 rfl ?_
                refine ge_iload_n (pc := 82) dX12_product_82 rfl ?_
                refine ge_imul (pc := 83) dX12_product_83 ?_
                refine ge_goto (pc := 84) 110 dX12_product_84 (by decide) ?_
                (refine ge_tov ?_ J_110; first | (simp [e_mulf, p_rem, *]; done) | (exfalso; simp_all; done))
          · refine ge_aload_n (pc := 38) dX12_product_38 rfl ?_
            refine ge_aload_n (pc := 39) dX12_product_39 rfl ?_
            refine gw_get (v := nI _) (pc := 40) dX12_product_40 fl_X12_108_12 sh_76 rfl rfl ?_
            refine ge_rV1i (pc := 43) dX12_product_43 cv_X12_111 sh_76 (x_byteAt hu hn hu2 hn2 rfl (by omega)) ⟨by omega, by decide⟩ rfl rfl (Nat.le_of_ble_eq_true rfl) ?_
            refine ge_bipush (pc := 46) dX12_product_46 kb_37 ?_
            refine ge_ic_ne (pc := 48) 114 dX12_product_48 (by decide) (fun h_48 => ?_) (fun h_48 => ?_)
            · have hop : e_mulop (e_b r u n a) = false := by simp [e_mulop, *]
              rw [e_lp_n hop] at he
              subst he
              refine ge_iload_n (pc := 114) dX12_product_114 rfl ?_
              exact ge_iret (pc := 115) rfl dX12_product_115 ⟨rfl, rfl⟩
            · have hop : e_mulop (e_b r u n a) = true := by simp [e_mulop, *]
              have hl : a < n := e_op_lt (r := r) (u := u) (n := n) (isop := e_mulop) (by decide) a hop
              rw [e_lp_y hop] at he
              refine ge_aload_n (pc := 51) dX12_product_51 rfl ?_
              refine ge_aload_n (pc := 52) dX12_product_52 rfl ?_
              refine gw_get (v := nI _) (pc := 53) dX12_product_53 fl_X12_108_12 sh_76 rfl rfl ?_
              refine ge_rV1i (pc := 56) dX12_product_56 cv_X12_111 sh_76 (x_byteAt hu hn hu2 hn2 rfl (by omega)) ⟨by omega, by decide⟩ rfl rfl (Nat.le_of_ble_eq_true rfl) ?_
              refine ge_istore_n (pc := 59) (l' := [(2, _), (1, _), (0, _)]) dX12_product_59 (by decide) rfl ?_
              refine ge_aload_n (pc := 60) dX12_product_60 rfl ?_
              refine ge_dup (pc := 61) dX12_product_61 rfl ?_
              refine gw_get (v := nI _) (pc := 62) dX12_product_62 fl_X12_108_12 sh_76 rfl rfl ?_
              refine ge_iconst (pc := 65) dX12_product_65 kc_1 ?_
              refine ge_iadd (pc := 66) dX12_product_66 ?_
              refine gw_at (pc := 67) dX12_product_67 fp_X12_108_12 sh_76 rfl (nI_1 _) ?_
              refine ge_aload_n (pc := 70) dX12_product_70 rfl ?_
              refine ge_rV0i (pc := 71) dX12_product_71 cv_X12_139 sh_76 (hs (a + 1) (by omega)) ⟨by omega, by decide⟩ rfl rfl (Nat.le_of_ble_eq_true rfl) ?_
              refine ge_istore_n (pc := 74) (l' := [(3, _), (2, _), (1, _), (0, _)]) dX12_product_74 (by decide) rfl ?_
              refine ge_iload_n (pc := 75) dX12_product_75 rfl ?_
              refine ge_bipush (pc := 76) dX12_product_76 kb_42 ?_
              refine ge_cutc (J := 110) (e_mulf (e_b r u n a) v (sub (a + 1)).2.2) ?_ (fun J_110 => ?_)
              · refine ge_istore_n (pc := 110) (l' := [(1, _), (3, _), (2, _), (0, _)]) dX12_product_110 (by decide) rfl ?_
                refine ge_goto (pc := 111) 5 dX12_product_111 (by decide) ?_
                refine ge_sub [0, 3] rfl ?_
                exact ih _ _ _ (hok (a + 1) hl).2 (by have := (hok (a + 1) hl).1; omega) he
              · refine ge_ic_ne (pc := 78) 87 dX12_product_78 (by decide) (fun h_78 => ?_) (fun h_78 => ?_)
                · refine ge_iload_n (pc := 87) dX12_product_87 rfl ?_
                  refine ge_if_ne (pc := 88) 95 dX12_product_88 (by decide) (fun h_88 => ?_) (fun h_88 => ?_)
                  · refine ge_iload_n (pc := 95) dX12_product_95 rfl ?_
                    refine ge_bipush (pc := 96) dX12_product_96 kb_47 ?_
                    refine ge_ic_ne (pc := 98) 107 dX12_product_98 (by decide) (fun h_98 => ?_) (fun h_98 => ?_)
                    · refine ge_iload_n (pc := 107) dX12_product_107 rfl ?_
                      refine ge_iload_n (pc := 108) dX12_product_108 rfl ?_
                      refine ge_irem (pc := 109) dX12_product_109 h_88 rfl ?_
                      (refine ge_tov ?_ J_110; first | (simp [e_mulf, p_rem, *]; done) | (exfalso; simp_all; done))
                    · refine ge_iload_n (pc := 101) dX12_product_101 rfl ?_
                      refine ge_iload_n (pc := 102) dX12_product_102 rfl ?_
                      refine ge_idiv (pc := 103) dX12_product_103 h_88 ?_
                      refine ge_goto (pc := 104) 110 dX12_product_104 (by decide) ?_
                      (refine ge_tov ?_ J_110; first | (simp [e_mulf, p_rem, *]; done) | (exfalso; simp_all; done))
                  · refine ge_iconst (pc := 91) dX12_product_91 kc_0 ?_
                    refine ge_goto (pc := 92) 110 dX12_product_92 (by decide) ?_
                    (refine ge_tov ?_ J_110; first | (simp [e_mulf, p_rem, *]; done) | (exfalso; simp_all; done))
                · refine ge_iload_n (pc := 81) dX12_product_81 rfl ?_
                  refine ge_iload_n (pc := 82) dX12_product_82 rfl ?_
                  refine ge_imul (pc := 83) dX12_product_83 ?_
                  refine ge_goto (pc := 84) 110 dX12_product_84 (by decide) ?_
                  (refine ge_tov ?_ J_110; first | (simp [e_mulf, p_rem, *]; done) | (exfalso; simp_all; done))
  refine ge_aload_n (pc := 0) dX12_product_0 rfl ?_
  refine ge_rV0i (pc := 1) dX12_product_1 cv_X12_139 sh_76 (hs a ha) ⟨by omega, by decide⟩ rfl rfl (Nat.le_of_ble_eq_true rfl) ?_
  refine ge_istore_n (pc := 4) (l' := [(1, _), (0, _)]) dX12_product_4 (by decide) rfl ?_
  exact key 51 _ _ _ (hok a ha).2 (by omega) hR
set_option maxHeartbeats 1000000 in
theorem x_sum {o ds : Nat} {sub : Nat → p_R} (hu : f 7 = nI u) (hn : f 9 = nI n) (hu2 : u < 2) (hn2 : n ≤ 50) (hds : 1 ≤ ds) (hok : e_ok n (e_pro (e_b r u n) sub)) (hs : ∀ a, a ≤ n → ge_Ret X ge_SH YX12_product ds [.ref (ge_ad X.1 76)] (ge_m g r (p_fw f a o true)) (some (.int (e_pro (e_b r u n) sub a).2.2)) (ge_m g r (p_fw f (e_pro (e_b r u n) sub a).2.1 o (e_pro (e_b r u n) sub a).1))) (a : Nat) (ha : a ≤ n) : ge_Ret X ge_SH YX12_sum (ds + 1) [.ref (ge_ad X.1 76)] (ge_m g r (p_fw f a o true)) (some (.int (e_sum (e_b r u n) sub a).2.2)) (ge_m g r (p_fw f (e_sum (e_b r u n) sub a).2.1 o (e_sum (e_b r u n) sub a).1)) := by
  refine ge_ofA (l := [(0, .ref (ge_ad X.1 76))]) (by decide) (Nat.le_of_ble_eq_true rfl) rfl ?_
  generalize hR : e_sum (e_b r u n) sub a = R
  have key : ∀ (F : Nat) (q : Bool) (a : Nat) (v : Int32), a ≤ n → n + 1 ≤ F + a → e_lp (e_b r u n) (e_pro (e_b r u n) sub) e_addop e_addf F (q, a, v) = R → ge_A X ge_SH YX12_sum (ds + 1) (fun v2 g2 => v2 = some (.int R.2.2) ∧ g2 = (ge_m g r (p_fw f R.2.1 o R.1))) 5 [(1, .int v), (0, .ref (ge_ad X.1 76))] [] (ge_m g r (p_fw f a o q)) := by
    intro F
    induction F with
    | zero => intro q a v h1 h2; omega
    | succ F ih =>
      intro q a v ha hF he
      refine ge_aload_n (pc := 5) dX12_sum_5 rfl ?_
      refine gw_get (v := p_b _) (pc := 6) dX12_sum_6 fl_X12_104_12 sh_76 rfl rfl ?_
      refine ge_if_eq (pc := 9) 81 dX12_sum_9 (by decide) (fun h_9 => ?_) (fun h_9 => ?_)
      · obtain rfl := p_b_0.mp h_9
        rw [e_lp_f] at he
        subst he
        refine ge_iload_n (pc := 81) dX12_sum_81 rfl ?_
        exact ge_iret (pc := 82) rfl dX12_sum_82 ⟨rfl, rfl⟩
      · obtain rfl := p_b_n.mp h_9
        refine ge_aload_n (pc := 12) dX12_sum_12 rfl ?_
        refine ge_aload_n (pc := 13) dX12_sum_13 rfl ?_
        refine gw_get (v := nI _) (pc := 14) dX12_sum_14 fl_X12_108_12 sh_76 rfl rfl ?_
        refine ge_rV1i (pc := 17) dX12_sum_17 cv_X12_111 sh_76 (x_byteAt hu hn hu2 hn2 rfl (by omega)) ⟨by omega, by decide⟩ rfl rfl (Nat.le_of_ble_eq_true rfl) ?_
        refine ge_bipush (pc := 20) dX12_sum_20 kb_43 ?_
        refine ge_ic_eq (pc := 22) 38 dX12_sum_22 (by decide) (fun h_22 => ?_) (fun h_22 => ?_)
        · have hop : e_addop (e_b r u n a) = true := by simp [e_addop, *]
          have hl : a < n := e_op_lt (r := r) (u := u) (n := n) (isop := e_addop) (by decide) a hop
          rw [e_lp_y hop] at he
          refine ge_aload_n (pc := 38) dX12_sum_38 rfl ?_
          refine ge_aload_n (pc := 39) dX12_sum_39 rfl ?_
          refine gw_get (v := nI _) (pc := 40) dX12_sum_40 fl_X12_108_12 sh_76 rfl rfl ?_
          refine ge_rV1i (pc := 43) dX12_sum_43 cv_X12_111 sh_76 (x_byteAt hu hn hu2 hn2 rfl (by omega)) ⟨by omega, by decide⟩ rfl rfl (Nat.le_of_ble_eq_true rfl) ?_
          refine ge_istore_n (pc := 46) (l' := [(2, _), (1, _), (0, _)]) dX12_sum_46 (by decide) rfl ?_
          refine ge_aload_n (pc := 47) dX12_sum_47 rfl ?_
          refine ge_dup (pc := 48) dX12_sum_48 rfl ?_
          refine gw_get (v := nI _) (pc := 49) dX12_sum_49 fl_X12_108_12 sh_76 rfl rfl ?_
          refine ge_iconst (pc := 52) dX12_sum_52 kc_1 ?_
          refine ge_iadd (pc := 53) dX12_sum_53 ?_
          refine gw_at (pc := 54) dX12_sum_54 fp_X12_108_12 sh_76 rfl (nI_1 _) ?_
          refine ge_aload_n (pc := 57) dX12_sum_57 rfl ?_
          refine ge_rV0i (pc := 58) dX12_sum_58 cv_X12_145 sh_76 (hs (a + 1) (by omega)) ⟨by omega, by decide⟩ rfl rfl (Nat.le_of_ble_eq_true rfl) ?_
          refine ge_istore_n (pc := 61) (l' := [(3, _), (2, _), (1, _), (0, _)]) dX12_sum_61 (by decide) rfl ?_
          refine ge_iload_n (pc := 62) dX12_sum_62 rfl ?_
          refine ge_bipush (pc := 63) dX12_sum_63 kb_43 ?_
          refine ge_cutc (J := 77) (e_addf (e_b r u n a) v (e_pro (e_b r u n) sub (a + 1)).2.2) ?_ (fun J_77 => ?_)
          · refine ge_istore_n (pc := 77) (l' := [(1, _), (3, _), (2, _), (0, _)]) dX12_sum_77 (by decide) rfl ?_
            refine ge_goto (pc := 78) 5 dX12_sum_78 (by decide) ?_
            refine ge_sub [0, 3] rfl ?_
            exact ih _ _ _ (hok (a + 1) hl).2 (by have := (hok (a + 1) hl).1; omega) he
          · refine ge_ic_ne (pc := 65) 74 dX12_sum_65 (by decide) (fun h_65 => ?_) (fun h_65 => ?_)
            · refine ge_iload_n (pc := 74) dX12_sum_74 rfl ?_
              refine ge_iload_n (pc := 75) dX12_sum_75 rfl ?_
              refine ge_isub (pc := 76) dX12_sum_76 ?_
              (refine ge_tov ?_ J_77; first | (simp [e_addf, *]; done) | (exfalso; simp_all; done))
            · refine ge_iload_n (pc := 68) dX12_sum_68 rfl ?_
              refine ge_iload_n (pc := 69) dX12_sum_69 rfl ?_
              refine ge_iadd (pc := 70) dX12_sum_70 ?_
              refine ge_goto (pc := 71) 77 dX12_sum_71 (by decide) ?_
              (refine ge_tov ?_ J_77; first | (simp [e_addf, *]; done) | (exfalso; simp_all; done))
        · refine ge_aload_n (pc := 25) dX12_sum_25 rfl ?_
          refine ge_aload_n (pc := 26) dX12_sum_26 rfl ?_
          refine gw_get (v := nI _) (pc := 27) dX12_sum_27 fl_X12_108_12 sh_76 rfl rfl ?_
          refine ge_rV1i (pc := 30) dX12_sum_30 cv_X12_111 sh_76 (x_byteAt hu hn hu2 hn2 rfl (by omega)) ⟨by omega, by decide⟩ rfl rfl (Nat.le_of_ble_eq_true rfl) ?_
          refine ge_bipush (pc := 33) dX12_sum_33 kb_45 ?_
          refine ge_ic_ne (pc := 35) 81 dX12_sum_35 (by decide) (fun h_35 => ?_) (fun h_35 => ?_)
          · have hop : e_addop (e_b r u n a) = false := by simp [e_addop, *]
            rw [e_lp_n hop] at he
            subst he
            refine ge_iload_n (pc := 81) dX12_sum_81 rfl ?_
            exact ge_iret (pc := 82) rfl dX12_sum_82 ⟨rfl, rfl⟩
          · have hop : e_addop (e_b r u n a) = true := by simp [e_addop, *]
            have hl : a < n := e_op_lt (r := r) (u := u) (n := n) (isop := e_addop) (by decide) a hop
            rw [e_lp_y hop] at he
            refine ge_aload_n (pc := 38) dX12_sum_38 rfl ?_
            refine ge_aload_n (pc := 39) dX12_sum_39 rfl ?_
            refine gw_get (v := nI _) (pc := 40) dX12_sum_40 fl_X12_108_12 sh_76 rfl rfl ?_
            refine ge_rV1i (pc := 43) dX12_sum_43 cv_X12_111 sh_76 (x_byteAt hu hn hu2 hn2 rfl (by omega)) ⟨by omega, by decide⟩ rfl rfl (Nat.le_of_ble_eq_true rfl) ?_
            refine ge_istore_n (pc := 46) (l' := [(2, _), (1, _), (0, _)]) dX12_sum_46 (by decide) rfl ?_
            refine ge_aload_n (pc := 47) dX12_sum_47 rfl ?_
            refine ge_dup (pc := 48) dX12_sum_48 rfl ?_
            refine gw_get (v := nI _) (pc := 49) dX12_sum_49 fl_X12_108_12 sh_76 rfl rfl ?_
            refine ge_iconst (pc := 52) dX12_sum_52 kc_1 ?_
            refine ge_iadd (pc := 53) dX12_sum_53 ?_
            refine gw_at (pc := 54) dX12_sum_54 fp_X12_108_12 sh_76 rfl (nI_1 _) ?_
            refine ge_aload_n (pc := 57) dX12_sum_57 rfl ?_
            refine ge_rV0i (pc := 58) dX12_sum_58 cv_X12_145 sh_76 (hs (a + 1) (by omega)) ⟨by omega, by decide⟩ rfl rfl (Nat.le_of_ble_eq_true rfl) ?_
            refine ge_istore_n (pc := 61) (l' := [(3, _), (2, _), (1, _), (0, _)]) dX12_sum_61 (by decide) rfl ?_
            refine ge_iload_n (pc := 62) dX12_sum_62 rfl ?_
            refine ge_bipush (pc := 63) dX12_sum_63 kb_43 ?_
            refine ge_cutc (J := 77) (e_addf (e_b r u n a) v (e_pro (e_b r u n) sub (a + 1)).2.2) ?_ (fun J_77 => ?_)
            · refine ge_istore_n (pc := 77) (l' := [(1, _), (3, _), (2, _), (0, _)]) dX12_sum_77 (by decide) rfl ?_
              refine ge_goto (pc := 78) 5 dX12_sum_78 (by decide) ?_
              refine ge_sub [0, 3] rfl ?_
              exact ih _ _ _ (hok (a + 1) hl).2 (by have := (hok (a + 1) hl).1; omega) he
            · refine ge_ic_ne (pc := 65) 74 dX12_sum_65 (by decide) (fun h_65 => ?_) (fun h_65 => ?_)
              · refine ge_iload_n (pc := 74) dX12_sum_74 rfl ?_
                refine ge_iload_n (pc := 75) dX12_sum_75 rfl ?_
                refine ge_isub (pc := 76) dX12_sum_76 ?_
                (refine ge_tov ?_ J_77; first | (simp [e_addf, *]; done) | (exfalso; simp_all; done))
              · refine ge_iload_n (pc := 68) dX12_sum_68 rfl ?_
                refine ge_iload_n (pc := 69) dX12_sum_69 rfl ?_
                refine ge_iadd (pc := 70) dX12_sum_70 ?_
                refine ge_goto (pc := 71) 77 dX12_sum_71 (by decide) ?_
                (refine ge_tov ?_ J_77; first | (simp [e_addf, *]; done) | (exfalso; simp_all; done))
  refine ge_aload_n (pc := 0) dX12_sum_0 rfl ?_
  refine ge_rV0i (pc := 1) dX12_sum_1 cv_X12_145 sh_76 (hs a ha) ⟨by omega, by decide⟩ rfl rfl (Nat.le_of_ble_eq_true rfl) ?_
  refine ge_istore_n (pc := 4) (l' := [(1, _), (0, _)]) dX12_sum_4 (by decide) rfl ?_
  exact key 51 _ _ _ (hok a ha).2 (by omega) hR
set_option maxHeartbeats 1000000 in
theorem x_both {o ds : Nat} {sub : Nat → p_R} (hu : f 7 = nI u) (hn : f 9 = nI n) (hu2 : u < 2) (hn2 : n ≤ 50) (hds : 1 ≤ ds) (hok : e_ok n (e_cmp (e_b r u n) sub)) (hs : ∀ a, a ≤ n → ge_Ret X ge_SH YX12_compared ds [.ref (ge_ad X.1 76)] (ge_m g r (p_fw f a o true)) (some (.int (e_cmp (e_b r u n) sub a).2.2)) (ge_m g r (p_fw f (e_cmp (e_b r u n) sub a).2.1 o (e_cmp (e_b r u n) sub a).1))) (a : Nat) (ha : a ≤ n) : ge_Ret X ge_SH YX12_both (ds + 1) [.ref (ge_ad X.1 76)] (ge_m g r (p_fw f a o true)) (some (.int (e_and (e_b r u n) sub a).2.2)) (ge_m g r (p_fw f (e_and (e_b r u n) sub a).2.1 o (e_and (e_b r u n) sub a).1)) := by
  refine ge_ofA (l := [(0, .ref (ge_ad X.1 76))]) (by decide) (Nat.le_of_ble_eq_true rfl) rfl ?_
  generalize hR : e_and (e_b r u n) sub a = R
  have key : ∀ (F : Nat) (q : Bool) (a : Nat) (v : Int32), a ≤ n → n + 1 ≤ F + a → e_lp (e_b r u n) (e_cmp (e_b r u n) sub) e_andop e_andf F (q, a, v) = R → ge_A X ge_SH YX12_both (ds + 1) (fun v2 g2 => v2 = some (.int R.2.2) ∧ g2 = (ge_m g r (p_fw f R.2.1 o R.1))) 5 [(1, .int v), (0, .ref (ge_ad X.1 76))] [] (ge_m g r (p_fw f a o q)) := by
    intro F
    induction F with
    | zero => intro q a v h1 h2; omega
    | succ F ih =>
      intro q a v ha hF he
      refine ge_aload_n (pc := 5) dX12_both_5 rfl ?_
      refine gw_get (v := p_b _) (pc := 6) dX12_both_6 fl_X12_104_12 sh_76 rfl rfl ?_
      refine ge_if_eq (pc := 9) 57 dX12_both_9 (by decide) (fun h_9 => ?_) (fun h_9 => ?_)
      · obtain rfl := p_b_0.mp h_9
        rw [e_lp_f] at he
        subst he
        refine ge_iload_n (pc := 57) dX12_both_57 rfl ?_
        exact ge_iret (pc := 58) rfl dX12_both_58 ⟨rfl, rfl⟩
      · obtain rfl := p_b_n.mp h_9
        refine ge_aload_n (pc := 12) dX12_both_12 rfl ?_
        refine ge_aload_n (pc := 13) dX12_both_13 rfl ?_
        refine gw_get (v := nI _) (pc := 14) dX12_both_14 fl_X12_108_12 sh_76 rfl rfl ?_
        refine ge_rV1i (pc := 17) dX12_both_17 cv_X12_111 sh_76 (x_byteAt hu hn hu2 hn2 rfl (by omega)) ⟨by omega, by decide⟩ rfl rfl (Nat.le_of_ble_eq_true rfl) ?_
        refine ge_bipush (pc := 20) dX12_both_20 kb_38 ?_
        refine ge_ic_ne (pc := 22) 57 dX12_both_22 (by decide) (fun h_22 => ?_) (fun h_22 => ?_)
        · have hop : e_andop (e_b r u n a) = false := by simp [e_andop, *]
          rw [e_lp_n hop] at he
          subst he
          refine ge_iload_n (pc := 57) dX12_both_57 rfl ?_
          exact ge_iret (pc := 58) rfl dX12_both_58 ⟨rfl, rfl⟩
        · have hop : e_andop (e_b r u n a) = true := by simp [e_andop, *]
          have hl : a < n := e_op_lt (r := r) (u := u) (n := n) (isop := e_andop) (by decide) a hop
          rw [e_lp_y hop] at he
          refine ge_aload_n (pc := 25) dX12_both_25 rfl ?_
          refine ge_dup (pc := 26) dX12_both_26 rfl ?_
          refine gw_get (v := nI _) (pc := 27) dX12_both_27 fl_X12_108_12 sh_76 rfl rfl ?_
          refine ge_iconst (pc := 30) dX12_both_30 kc_1 ?_
          refine ge_iadd (pc := 31) dX12_both_31 ?_
          refine gw_at (pc := 32) dX12_both_32 fp_X12_108_12 sh_76 rfl (nI_1 _) ?_
          refine ge_aload_n (pc := 35) dX12_both_35 rfl ?_
          refine ge_rV0i (pc := 36) dX12_both_36 cv_X12_151 sh_76 (hs (a + 1) (by omega)) ⟨by omega, by decide⟩ rfl rfl (Nat.le_of_ble_eq_true rfl) ?_
          refine ge_istore_n (pc := 39) (l' := [(2, _), (1, _), (0, _)]) dX12_both_39 (by decide) rfl ?_
          refine ge_iload_n (pc := 40) dX12_both_40 rfl ?_
          refine ge_cutz (J := 53) (e_andf (e_b r u n a) v (e_cmp (e_b r u n) sub (a + 1)).2.2) ?_ (fun J_53 => ?_)
          · refine ge_istore_n (pc := 53) (l' := [(1, _), (2, _), (0, _)]) dX12_both_53 (by decide) rfl ?_
            refine ge_goto (pc := 54) 5 dX12_both_54 (by decide) ?_
            refine ge_sub [0, 2] rfl ?_
            exact ih _ _ _ (hok (a + 1) hl).2 (by have := (hok (a + 1) hl).1; omega) he
          · refine ge_if_eq (pc := 41) 52 dX12_both_41 (by decide) (fun h_41 => ?_) (fun h_41 => ?_)
            · refine ge_iconst (pc := 52) dX12_both_52 kc_0 ?_
              (refine ge_tov ?_ J_53; first | (simp [e_andf, *]; done) | (exfalso; simp_all; done))
            · refine ge_iload_n (pc := 44) dX12_both_44 rfl ?_
              refine ge_if_eq (pc := 45) 52 dX12_both_45 (by decide) (fun h_45 => ?_) (fun h_45 => ?_)
              · refine ge_iconst (pc := 52) dX12_both_52 kc_0 ?_
                (refine ge_tov ?_ J_53; first | (simp [e_andf, *]; done) | (exfalso; simp_all; done))
              · refine ge_iconst (pc := 48) dX12_both_48 kc_1 ?_
                refine ge_goto (pc := 49) 53 dX12_both_49 (by decide) ?_
                (refine ge_tov ?_ J_53; first | (simp [e_andf, *]; done) | (exfalso; simp_all; done))
  refine ge_aload_n (pc := 0) dX12_both_0 rfl ?_
  refine ge_rV0i (pc := 1) dX12_both_1 cv_X12_151 sh_76 (hs a ha) ⟨by omega, by decide⟩ rfl rfl (Nat.le_of_ble_eq_true rfl) ?_
  refine ge_istore_n (pc := 4) (l' := [(1, _), (0, _)]) dX12_both_4 (by decide) rfl ?_
  exact key 51 _ _ _ (hok a ha).2 (by omega) hR
set_option maxHeartbeats 1000000 in
theorem x_whole {o ds : Nat} {sub : Nat → p_R} (hu : f 7 = nI u) (hn : f 9 = nI n) (hu2 : u < 2) (hn2 : n ≤ 50) (hds : 1 ≤ ds) (hok : e_ok n (e_and (e_b r u n) sub)) (hs : ∀ a, a ≤ n → ge_Ret X ge_SH YX12_both ds [.ref (ge_ad X.1 76)] (ge_m g r (p_fw f a o true)) (some (.int (e_and (e_b r u n) sub a).2.2)) (ge_m g r (p_fw f (e_and (e_b r u n) sub a).2.1 o (e_and (e_b r u n) sub a).1))) (a : Nat) (ha : a ≤ n) : ge_Ret X ge_SH YX12_whole (ds + 1) [.ref (ge_ad X.1 76)] (ge_m g r (p_fw f a o true)) (some (.int (e_who (e_b r u n) sub a).2.2)) (ge_m g r (p_fw f (e_who (e_b r u n) sub a).2.1 o (e_who (e_b r u n) sub a).1)) := by
  refine ge_ofA (l := [(0, .ref (ge_ad X.1 76))]) (by decide) (Nat.le_of_ble_eq_true rfl) rfl ?_
  generalize hR : e_who (e_b r u n) sub a = R
  have key : ∀ (F : Nat) (q : Bool) (a : Nat) (v : Int32), a ≤ n → n + 1 ≤ F + a → e_lp (e_b r u n) (e_and (e_b r u n) sub) e_orop e_orf F (q, a, v) = R → ge_A X ge_SH YX12_whole (ds + 1) (fun v2 g2 => v2 = some (.int R.2.2) ∧ g2 = (ge_m g r (p_fw f R.2.1 o R.1))) 5 [(1, .int v), (0, .ref (ge_ad X.1 76))] [] (ge_m g r (p_fw f a o q)) := by
    intro F
    induction F with
    | zero => intro q a v h1 h2; omega
    | succ F ih =>
      intro q a v ha hF he
      refine ge_aload_n (pc := 5) dX12_whole_5 rfl ?_
      refine gw_get (v := p_b _) (pc := 6) dX12_whole_6 fl_X12_104_12 sh_76 rfl rfl ?_
      refine ge_if_eq (pc := 9) 57 dX12_whole_9 (by decide) (fun h_9 => ?_) (fun h_9 => ?_)
      · obtain rfl := p_b_0.mp h_9
        rw [e_lp_f] at he
        subst he
        refine ge_iload_n (pc := 57) dX12_whole_57 rfl ?_
        exact ge_iret (pc := 58) rfl dX12_whole_58 ⟨rfl, rfl⟩
      · obtain rfl := p_b_n.mp h_9
        refine ge_aload_n (pc := 12) dX12_whole_12 rfl ?_
        refine ge_aload_n (pc := 13) dX12_whole_13 rfl ?_
        refine gw_get (v := nI _) (pc := 14) dX12_whole_14 fl_X12_108_12 sh_76 rfl rfl ?_
        refine ge_rV1i (pc := 17) dX12_whole_17 cv_X12_111 sh_76 (x_byteAt hu hn hu2 hn2 rfl (by omega)) ⟨by omega, by decide⟩ rfl rfl (Nat.le_of_ble_eq_true rfl) ?_
        refine ge_bipush (pc := 20) dX12_whole_20 kb_124 ?_
        refine ge_ic_ne (pc := 22) 57 dX12_whole_22 (by decide) (fun h_22 => ?_) (fun h_22 => ?_)
        · have hop : e_orop (e_b r u n a) = false := by simp [e_orop, *]
          rw [e_lp_n hop] at he
          subst he
          refine ge_iload_n (pc := 57) dX12_whole_57 rfl ?_
          exact ge_iret (pc := 58) rfl dX12_whole_58 ⟨rfl, rfl⟩
        · have hop : e_orop (e_b r u n a) = true := by simp [e_orop, *]
          have hl : a < n := e_op_lt (r := r) (u := u) (n := n) (isop := e_orop) (by decide) a hop
          rw [e_lp_y hop] at he
          refine ge_aload_n (pc := 25) dX12_whole_25 rfl ?_
          refine ge_dup (pc := 26) dX12_whole_26 rfl ?_
          refine gw_get (v := nI _) (pc := 27) dX12_whole_27 fl_X12_108_12 sh_76 rfl rfl ?_
          refine ge_iconst (pc := 30) dX12_whole_30 kc_1 ?_
          refine ge_iadd (pc := 31) dX12_whole_31 ?_
          refine gw_at (pc := 32) dX12_whole_32 fp_X12_108_12 sh_76 rfl (nI_1 _) ?_
          refine ge_aload_n (pc := 35) dX12_whole_35 rfl ?_
          refine ge_rV0i (pc := 36) dX12_whole_36 cv_X12_154 sh_76 (hs (a + 1) (by omega)) ⟨by omega, by decide⟩ rfl rfl (Nat.le_of_ble_eq_true rfl) ?_
          refine ge_istore_n (pc := 39) (l' := [(2, _), (1, _), (0, _)]) dX12_whole_39 (by decide) rfl ?_
          refine ge_iload_n (pc := 40) dX12_whole_40 rfl ?_
          refine ge_cutz (J := 53) (e_orf (e_b r u n a) v (e_and (e_b r u n) sub (a + 1)).2.2) ?_ (fun J_53 => ?_)
          · refine ge_istore_n (pc := 53) (l' := [(1, _), (2, _), (0, _)]) dX12_whole_53 (by decide) rfl ?_
            refine ge_goto (pc := 54) 5 dX12_whole_54 (by decide) ?_
            refine ge_sub [0, 2] rfl ?_
            exact ih _ _ _ (hok (a + 1) hl).2 (by have := (hok (a + 1) hl).1; omega) he
          · refine ge_if_ne (pc := 41) 48 dX12_whole_41 (by decide) (fun h_41 => ?_) (fun h_41 => ?_)
            · refine ge_iconst (pc := 48) dX12_whole_48 kc_1 ?_
              refine ge_goto (pc := 49) 53 dX12_whole_49 (by decide) ?_
              (refine ge_tov ?_ J_53; first | (simp [e_orf, *]; done) | (exfalso; simp_all; done))
            · refine ge_iload_n (pc := 44) dX12_whole_44 rfl ?_
              refine ge_if_eq (pc := 45) 52 dX12_whole_45 (by decide) (fun h_45 => ?_) (fun h_45 => ?_)
              · refine ge_iconst (pc := 52) dX12_whole_52 kc_0 ?_
                (refine ge_tov ?_ J_53; first | (simp [e_orf, *]; done) | (exfalso; simp_all; done))
              · refine ge_iconst (pc := 48) dX12_whole_48 kc_1 ?_
                refine ge_goto (pc := 49) 53 dX12_whole_49 (by decide) ?_
                (refine ge_tov ?_ J_53; first | (simp [e_orf, *]; done) | (exfalso; simp_all; done))
  refine ge_aload_n (pc := 0) dX12_whole_0 rfl ?_
  refine ge_rV0i (pc := 1) dX12_whole_1 cv_X12_154 sh_76 (hs a ha) ⟨by omega, by decide⟩ rfl rfl (Nat.le_of_ble_eq_true rfl) ?_
  refine ge_istore_n (pc := 4) (l' := [(1, _), (0, _)]) dX12_whole_4 (by decide) rfl ?_
  exact key 51 _ _ _ (hok a ha).2 (by omega) hR
theorem e_cmpc_l {q : Bool} {a : Nat} {v : Int32} (h : e_cmpc (e_b r u n) (q, a, v) = 60 ∨ e_cmpc (e_b r u n) (q, a, v) = 61 ∨ e_cmpc (e_b r u n) (q, a, v) = 62) : q = true ∧ a < n := by
  cases q with
  | false => exact absurd h (by unfold e_cmpc; simp)
  | true =>
    refine ⟨rfl, e_b_lt (r := r) (u := u) (fun z => ?_)⟩
    have e : e_cmpc (e_b r u n) (true, a, v) = e_b r u n a := rfl
    rw [e, z] at h
    exact absurd h (by decide)
theorem e_cmpf_1 (c v w : Int32) (h : ¬ e_cmpf c v w = 0) : e_cmpf c v w = 1 := by
  revert h
  unfold e_cmpf
  repeat' split
  all_goals simp
set_option maxHeartbeats 1000000 in
theorem x_compared {o ds : Nat} {sub : Nat → p_R} (hu : f 7 = nI u) (hn : f 9 = nI n) (hu2 : u < 2) (hn2 : n ≤ 50) (hds : 1 ≤ ds) (hok : e_ok n (e_sum (e_b r u n) sub)) (hs : ∀ a, a ≤ n → ge_Ret X ge_SH YX12_sum ds [.ref (ge_ad X.1 76)] (ge_m g r (p_fw f a o true)) (some (.int (e_sum (e_b r u n) sub a).2.2)) (ge_m g r (p_fw f (e_sum (e_b r u n) sub a).2.1 o (e_sum (e_b r u n) sub a).1))) (a : Nat) (ha : a ≤ n) : ge_Ret X ge_SH YX12_compared (ds + 1) [.ref (ge_ad X.1 76)] (ge_m g r (p_fw f a o true)) (some (.int (e_cmp (e_b r u n) sub a).2.2)) (ge_m g r (p_fw f (e_cmp (e_b r u n) sub a).2.1 o (e_cmp (e_b r u n) sub a).1)) := by
  have h0 := hs a ha
  have h1 := (hok a ha).2
  unfold e_cmp
  generalize e_sum (e_b r u n) sub a = s at h0 h1 ⊢
  obtain ⟨q, a2, v⟩ := s
  simp only at h0 h1
  obtain ⟨c, hcc⟩ : ∃ c, c = e_cmpc (e_b r u n) (q, a2, v) := ⟨_, rfl⟩
  refine ge_ofA (l := [(0, .ref (ge_ad X.1 76))]) (by decide) (Nat.le_of_ble_eq_true rfl) rfl ?_
  refine ge_aload_n (pc := 0) dX12_compared_0 rfl ?_
  refine ge_rV0i (pc := 1) dX12_compared_1 cv_X12_148 sh_76 h0 ⟨by omega, by decide⟩ rfl rfl (Nat.le_of_ble_eq_true rfl) ?_
  refine ge_istore_n (pc := 4) (l' := [(1, _), (0, _)]) dX12_compared_4 (by decide) rfl ?_
  refine ge_aload_n (pc := 5) dX12_compared_5 rfl ?_
  refine gw_get (v := p_b _) (pc := 6) dX12_compared_6 fl_X12_104_12 sh_76 rfl rfl ?_
  refine ge_cutz (J := 24) (c) ?_ (fun J_24 => ?_)
  · refine ge_istore_n (pc := 24) (l' := [(2, _), (1, _), (0, _)]) dX12_compared_24 (by decide) rfl ?_
    refine ge_iload_n (pc := 25) dX12_compared_25 rfl ?_
    refine ge_bipush (pc := 26) dX12_compared_26 kb_60 ?_
    refine ge_ic_eq (pc := 28) 45 dX12_compared_28 (by decide) (fun h_28 => ?_) (fun h_28 => ?_)
    · have hc : c = 60 ∨ c = 61 ∨ c = 62 := by first | exact Or.inl h_28 | exact Or.inr (Or.inl h_34) | exact Or.inr (Or.inr h_40)
      obtain ⟨hq, hl⟩ := e_cmpc_l (hcc ▸ hc)
      subst hq
      refine ge_aload_n (pc := 45) dX12_compared_45 rfl ?_
      refine ge_dup (pc := 46) dX12_compared_46 rfl ?_
      refine gw_get (v := nI _) (pc := 47) dX12_compared_47 fl_X12_108_12 sh_76 rfl rfl ?_
      refine ge_iconst (pc := 50) dX12_compared_50 kc_1 ?_
      refine ge_iadd (pc := 51) dX12_compared_51 ?_
      refine gw_at (pc := 52) dX12_compared_52 fp_X12_108_12 sh_76 rfl (nI_1 _) ?_
      refine ge_aload_n (pc := 55) dX12_compared_55 rfl ?_
      refine ge_rV0i (pc := 56) dX12_compared_56 cv_X12_148 sh_76 (hs (a2 + 1) (by omega)) ⟨by omega, by decide⟩ rfl rfl (Nat.le_of_ble_eq_true rfl) ?_
      refine ge_istore_n (pc := 59) (l' := [(3, _), (2, _), (1, _), (0, _)]) dX12_compared_59 (by decide) rfl ?_
      refine ge_iload_n (pc := 60) dX12_compared_60 rfl ?_
      refine ge_bipush (pc := 61) dX12_compared_61 kb_60 ?_
      refine ge_cutc (J := 108) (e_cmpf c v (e_sum (e_b r u n) sub (a2 + 1)).2.2) ?_ (fun J_108 => ?_)
      · refine ge_istore (pc := 108) (l' := [(4, _), (3, _), (2, _), (1, _), (0, _)]) dX12_compared_108 (by decide) rfl ?_
        refine ge_iload (pc := 110) dX12_compared_110 rfl ?_
        refine ge_if_eq (pc := 112) 119 dX12_compared_112 (by decide) (fun h_112 => ?_) (fun h_112 => ?_)
        · refine ge_iconst (pc := 119) dX12_compared_119 kc_0 ?_
          exact ge_iret (pc := 120) rfl dX12_compared_120 (by unfold e_cmp2; rw [← hcc, if_pos hc]; refine ⟨?_, rfl⟩; first | rw [h_112] | rw [e_cmpf_1 _ _ _ h_112])
        · refine ge_iconst (pc := 115) dX12_compared_115 kc_1 ?_
          refine ge_goto (pc := 116) 120 dX12_compared_116 (by decide) ?_
          exact ge_iret (pc := 120) rfl dX12_compared_120 (by unfold e_cmp2; rw [← hcc, if_pos hc]; refine ⟨?_, rfl⟩; first | rw [h_112] | rw [e_cmpf_1 _ _ _ h_112])
      · refine ge_ic_ne (pc := 63) 79 dX12_compared_63 (by decide) (fun h_63 => ?_) (fun h_63 => ?_)
        · refine ge_iload_n (pc := 79) dX12_compared_79 rfl ?_
          refine ge_bipush (pc := 80) dX12_compared_80 kb_61 ?_
          refine ge_ic_ne (pc := 82) 98 dX12_compared_82 (by decide) (fun h_82 => ?_) (fun h_82 => ?_)
          · refine ge_iload_n (pc := 98) dX12_compared_98 rfl ?_
            refine ge_iload_n (pc := 99) dX12_compared_99 rfl ?_
            refine ge_ic_le (pc := 100) 107 dX12_compared_100 (by decide) (fun h_100 => ?_) (fun h_100 => ?_)
            · refine ge_iconst (pc := 107) dX12_compared_107 kc_0 ?_
              (refine ge_tov ?_ J_108; first | (simp [e_cmpf, *]; done) | (exfalso; simp_all; done))
            · refine ge_iconst (pc := 103) dX12_compared_103 kc_1 ?_
              refine ge_goto (pc := 104) 108 dX12_compared_104 (by decide) ?_
              (refine ge_tov ?_ J_108; first | (simp [e_cmpf, *]; done) | (exfalso; simp_all; done))
          · refine ge_iload_n (pc := 85) dX12_compared_85 rfl ?_
            refine ge_iload_n (pc := 86) dX12_compared_86 rfl ?_
            refine ge_ic_ne (pc := 87) 94 dX12_compared_87 (by decide) (fun h_87 => ?_) (fun h_87 => ?_)
            · refine ge_iconst (pc := 94) dX12_compared_94 kc_0 ?_
              refine ge_goto (pc := 95) 108 dX12_compared_95 (by decide) ?_
              (refine ge_tov ?_ J_108; first | (simp [e_cmpf, *]; done) | (exfalso; simp_all; done))
            · refine ge_iconst (pc := 90) dX12_compared_90 kc_1 ?_
              refine ge_goto (pc := 91) 108 dX12_compared_91 (by decide) ?_
              (refine ge_tov ?_ J_108; first | (simp [e_cmpf, *]; done) | (exfalso; simp_all; done))
        · refine ge_iload_n (pc := 66) dX12_compared_66 rfl ?_
          refine ge_iload_n (pc := 67) dX12_compared_67 rfl ?_
          refine ge_ic_ge (pc := 68) 75 dX12_compared_68 (by decide) (fun h_68 => ?_) (fun h_68 => ?_)
          · refine ge_iconst (pc := 75) dX12_compared_75 kc_0 ?_
            refine ge_goto (pc := 76) 108 dX12_compared_76 (by decide) ?_
            (refine ge_tov ?_ J_108; first | (simp [e_cmpf, *]; done) | (exfalso; simp_all; done))
          · refine ge_iconst (pc := 71) dX12_compared_71 kc_1 ?_
            refine ge_goto (pc := 72) 108 dX12_compared_72 (by decide) ?_
            (refine ge_tov ?_ J_108; first | (simp [e_cmpf, *]; done) | (exfalso; simp_all; done))
    · refine ge_iload_n (pc := 31) dX12_compared_31 rfl ?_
      refine ge_bipush (pc := 32) dX12_compared_32 kb_61 ?_
      refine ge_ic_eq (pc := 34) 45 dX12_compared_34 (by decide) (fun h_34 => ?_) (fun h_34 => ?_)
      · have hc : c = 60 ∨ c = 61 ∨ c = 62 := by first | exact Or.inl h_28 | exact Or.inr (Or.inl h_34) | exact Or.inr (Or.inr h_40)
        obtain ⟨hq, hl⟩ := e_cmpc_l (hcc ▸ hc)
        subst hq
        refine ge_aload_n (pc := 45) dX12_compared_45 rfl ?_
        refine ge_dup (pc := 46) dX12_compared_46 rfl ?_
        refine gw_get (v := nI _) (pc := 47) dX12_compared_47 fl_X12_108_12 sh_76 rfl rfl ?_
        refine ge_iconst (pc := 50) dX12_compared_50 kc_1 ?_
        refine ge_iadd (pc := 51) dX12_compared_51 ?_
        refine gw_at (pc := 52) dX12_compared_52 fp_X12_108_12 sh_76 rfl (nI_1 _) ?_
        refine ge_aload_n (pc := 55) dX12_compared_55 rfl ?_
        refine ge_rV0i (pc := 56) dX12_compared_56 cv_X12_148 sh_76 (hs (a2 + 1) (by omega)) ⟨by omega, by decide⟩ rfl rfl (Nat.le_of_ble_eq_true rfl) ?_
        refine ge_istore_n (pc := 59) (l' := [(3, _), (2, _), (1, _), (0, _)]) dX12_compared_59 (by decide) rfl ?_
        refine ge_iload_n (pc := 60) dX12_compared_60 rfl ?_
        refine ge_bipush (pc := 61) dX12_compared_61 kb_60 ?_
        refine ge_cutc (J := 108) (e_cmpf c v (e_sum (e_b r u n) sub (a2 + 1)).2.2) ?_ (fun J_108 => ?_)
        · refine ge_istore (pc := 108) (l' := [(4, _), (3, _), (2, _), (1, _), (0, _)]) dX12_compared_108 (by decide) rfl ?_
          refine ge_iload (pc := 110) dX12_compared_110 rfl ?_
          refine ge_if_eq (pc := 112) 119 dX12_compared_112 (by decide) (fun h_112 => ?_) (fun h_112 => ?_)
          · refine ge_iconst (pc := 119) dX12_compared_119 kc_0 ?_
            exact ge_iret (pc := 120) rfl dX12_compared_120 (by unfold e_cmp2; rw [← hcc, if_pos hc]; refine ⟨?_, rfl⟩; first | rw [h_112] | rw [e_cmpf_1 _ _ _ h_112])
          · refine ge_iconst (pc := 115) dX12_compared_115 kc_1 ?_
            refine ge_goto (pc := 116) 120 dX12_compared_116 (by decide) ?_
            exact ge_iret (pc := 120) rfl dX12_compared_120 (by unfold e_cmp2; rw [← hcc, if_pos hc]; refine ⟨?_, rfl⟩; first | rw [h_112] | rw [e_cmpf_1 _ _ _ h_112])
        · refine ge_ic_ne (pc := 63) 79 dX12_compared_63 (by decide) (fun h_63 => ?_) (fun h_63 => ?_)
          · refine ge_iload_n (pc := 79) dX12_compared_79 rfl ?_
            refine ge_bipush (pc := 80) dX12_compared_80 kb_61 ?_
            refine ge_ic_ne (pc := 82) 98 dX12_compared_82 (by decide) (fun h_82 => ?_) (fun h_82 => ?_)
            · refine ge_iload_n (pc := 98) dX12_compared_98 rfl ?_
              refine ge_iload_n (pc := 99) dX12_compared_99 rfl ?_
              refine ge_ic_le (pc := 100) 107 dX12_compared_100 (by decide) (fun h_100 => ?_) (fun h_100 => ?_)
              · refine ge_iconst (pc := 107) dX12_compared_107 kc_0 ?_
                (refine ge_tov ?_ J_108; first | (simp [e_cmpf, *]; done) | (exfalso; simp_all; done))
              · refine ge_iconst (pc := 103) dX12_compared_103 kc_1 ?_
                refine ge_goto (pc := 104) 108 dX12_compared_104 (by decide) ?_
                (refine ge_tov ?_ J_108; first | (simp [e_cmpf, *]; done) | (exfalso; simp_all; done))
            · refine ge_iload_n (pc := 85) dX12_compared_85 rfl ?_
              refine ge_iload_n (pc := 86) dX12_compared_86 rfl ?_
              refine ge_ic_ne (pc := 87) 94 dX12_compared_87 (by decide) (fun h_87 => ?_) (fun h_87 => ?_)
              · refine ge_iconst (pc := 94) dX12_compared_94 kc_0 ?_
                refine ge_goto (pc := 95) 108 dX12_compared_95 (by decide) ?_
                (refine ge_tov ?_ J_108; first | (simp [e_cmpf, *]; done) | (exfalso; simp_all; done))
              · refine ge_iconst (pc := 90) dX12_compared_90 kc_1 ?_
                refine ge_goto (pc := 91) 108 dX12_compared_91 (by decide) ?_
                (refine ge_tov ?_ J_108; first | (simp [e_cmpf, *]; done) | (exfalso; simp_all; done))
          · refine ge_iload_n (pc := 66) dX12_compared_66 rfl ?_
            refine ge_iload_n (pc := 67) dX12_compared_67 rfl ?_
            refine ge_ic_ge (pc := 68) 75 dX12_compared_68 (by decide) (fun h_68 => ?_) (fun h_68 => ?_)
            · refine ge_iconst (pc := 75) dX12_compared_75 kc_0 ?_
              refine ge_goto (pc := 76) 108 dX12_compared_76 (by decide) ?_
              (refine ge_tov ?_ J_108; first | (simp [e_cmpf, *]; done) | (exfalso; simp_all; done))
            · refine ge_iconst (pc := 71) dX12_compared_71 kc_1 ?_
              refine ge_goto (pc := 72) 108 dX12_compared_72 (by decide) ?_
              (refine ge_tov ?_ J_108; first | (simp [e_cmpf, *]; done) | (exfalso; simp_all; done))
      · refine ge_iload_n (pc := 37) dX12_compared_37 rfl ?_
        refine ge_bipush (pc := 38) dX12_compared_38 kb_62 ?_
        refine ge_ic_eq (pc := 40) 45 dX12_compared_40 (by decide) (fun h_40 => ?_) (fun h_40 => ?_)
        · have hc : c = 60 ∨ c = 61 ∨ c = 62 := by first | exact Or.inl h_28 | exact Or.inr (Or.inl h_34) | exact Or.inr (Or.inr h_40)
          obtain ⟨hq, hl⟩ := e_cmpc_l (hcc ▸ hc)
          subst hq
          refine ge_aload_n (pc := 45) dX12_compared_45 rfl ?_
          refine ge_dup (pc := 46) dX12_compared_46 rfl ?_
          refine gw_get (v := nI _) (pc := 47) dX12_compared_47 fl_X12_108_12 sh_76 rfl rfl ?_
          refine ge_iconst (pc := 50) dX12_compared_50 kc_1 ?_
          refine ge_iadd (pc := 51) dX12_compared_51 ?_
          refine gw_at (pc := 52) dX12_compared_52 fp_X12_108_12 sh_76 rfl (nI_1 _) ?_
          refine ge_aload_n (pc := 55) dX12_compared_55 rfl ?_
          refine ge_rV0i (pc := 56) dX12_compared_56 cv_X12_148 sh_76 (hs (a2 + 1) (by omega)) ⟨by omega, by decide⟩ rfl rfl (Nat.le_of_ble_eq_true rfl) ?_
          refine ge_istore_n (pc := 59) (l' := [(3, _), (2, _), (1, _), (0, _)]) dX12_compared_59 (by decide) rfl ?_
          refine ge_iload_n (pc := 60) dX12_compared_60 rfl ?_
          refine ge_bipush (pc := 61) dX12_compared_61 kb_60 ?_
          refine ge_cutc (J := 108) (e_cmpf c v (e_sum (e_b r u n) sub (a2 + 1)).2.2) ?_ (fun J_108 => ?_)
          · refine ge_istore (pc := 108) (l' := [(4, _), (3, _), (2, _), (1, _), (0, _)]) dX12_compared_108 (by decide) rfl ?_
            refine ge_iload (pc := 110) dX12_compared_110 rfl ?_
            refine ge_if_eq (pc := 112) 119 dX12_compared_112 (by decide) (fun h_112 => ?_) (fun h_112 => ?_)
            · refine ge_iconst (pc := 119) dX12_compared_119 kc_0 ?_
              exact ge_iret (pc := 120) rfl dX12_compared_120 (by unfold e_cmp2; rw [← hcc, if_pos hc]; refine ⟨?_, rfl⟩; first | rw [h_112] | rw [e_cmpf_1 _ _ _ h_112])
            · refine ge_iconst (pc := 115) dX12_compared_115 kc_1 ?_
              refine ge_goto (pc := 116) 120 dX12_compared_116 (by decide) ?_
              exact ge_iret (pc := 120) rfl dX12_compared_120 (by unfold e_cmp2; rw [← hcc, if_pos hc]; refine ⟨?_, rfl⟩; first | rw [h_112] | rw [e_cmpf_1 _ _ _ h_112])
          · refine ge_ic_ne (pc := 63) 79 dX12_compared_63 (by decide) (fun h_63 => ?_) (fun h_63 => ?_)
            · refine ge_iload_n (pc := 79) dX12_compared_79 rfl ?_
              refine ge_bipush (pc := 80) dX12_compared_80 kb_61 ?_
              refine ge_ic_ne (pc := 82) 98 dX12_compared_82 (by decide) (fun h_82 => ?_) (fun h_82 => ?_)
              · refine ge_iload_n (pc := 98) dX12_compared_98 rfl ?_
                refine ge_iload_n (pc := 99) dX12_compared_99 rfl ?_
                refine ge_ic_le (pc := 100) 107 dX12_compared_100 (by decide) (fun h_100 => ?_) (fun h_100 => ?_)
                · refine ge_iconst (pc := 107) dX12_compared_107 kc_0 ?_
                  (refine ge_tov ?_ J_108; first | (simp [e_cmpf, *]; done) | (exfalso; simp_all; done))
                · refine ge_iconst (pc := 103) dX12_compared_103 kc_1 ?_
                  refine ge_goto (pc := 104) 108 dX12_compared_104 (by decide) ?_
                  (refine ge_tov ?_ J_108; first | (simp [e_cmpf, *]; done) | (exfalso; simp_all; done))
              · refine ge_iload_n (pc := 85) dX12_compared_85 rfl ?_
                refine ge_iload_n (pc := 86) dX12_compared_86 rfl ?_
                refine ge_ic_ne (pc := 87) 94 dX12_compared_87 (by decide) (fun h_87 => ?_) (fun h_87 => ?_)
                · refine ge_iconst (pc := 94) dX12_compared_94 kc_0 ?_
                  refine ge_goto (pc := 95) 108 dX12_compared_95 (by decide) ?_
                  (refine ge_tov ?_ J_108; first | (simp [e_cmpf, *]; done) | (exfalso; simp_all; done))
                · refine ge_iconst (pc := 90) dX12_compared_90 kc_1 ?_
                  refine ge_goto (pc := 91) 108 dX12_compared_91 (by decide) ?_
                  (refine ge_tov ?_ J_108; first | (simp [e_cmpf, *]; done) | (exfalso; simp_all; done))
            · refine ge_iload_n (pc := 66) dX12_compared_66 rfl ?_
              refine ge_iload_n (pc := 67) dX12_compared_67 rfl ?_
              refine ge_ic_ge (pc := 68) 75 dX12_compared_68 (by decide) (fun h_68 => ?_) (fun h_68 => ?_)
              · refine ge_iconst (pc := 75) dX12_compared_75 kc_0 ?_
                refine ge_goto (pc := 76) 108 dX12_compared_76 (by decide) ?_
                (refine ge_tov ?_ J_108; first | (simp [e_cmpf, *]; done) | (exfalso; simp_all; done))
              · refine ge_iconst (pc := 71) dX12_compared_71 kc_1 ?_
                refine ge_goto (pc := 72) 108 dX12_compared_72 (by decide) ?_
                (refine ge_tov ?_ J_108; first | (simp [e_cmpf, *]; done) | (exfalso; simp_all; done))
        · refine ge_iload_n (pc := 43) dX12_compared_43 rfl ?_
          exact ge_iret (pc := 44) rfl dX12_compared_44 (by unfold e_cmp2; rw [← hcc, if_neg (fun z => by rcases z with z | z | z <;> contradiction)]; exact ⟨rfl, rfl⟩)
  · refine ge_if_eq (pc := 9) 23 dX12_compared_9 (by decide) (fun h_9 => ?_) (fun h_9 => ?_)
    · refine ge_iconst (pc := 23) dX12_compared_23 kc_m1 ?_
      (refine ge_tov ?_ J_24; rw [hcc]; cases q <;> first | rfl | (exact absurd h_9 (by decide)) | (exact absurd rfl h_9))
    · refine ge_aload_n (pc := 12) dX12_compared_12 rfl ?_
      refine ge_aload_n (pc := 13) dX12_compared_13 rfl ?_
      refine gw_get (v := nI _) (pc := 14) dX12_compared_14 fl_X12_108_12 sh_76 rfl rfl ?_
      refine ge_rV1i (pc := 17) dX12_compared_17 cv_X12_111 sh_76 (x_byteAt hu hn hu2 hn2 rfl (by omega)) ⟨by omega, by decide⟩ rfl rfl (Nat.le_of_ble_eq_true rfl) ?_
      refine ge_goto (pc := 20) 24 dX12_compared_20 (by decide) ?_
      (refine ge_tov ?_ J_24; rw [hcc]; cases q <;> first | rfl | (exact absurd h_9 (by decide)) | (exact absurd rfl h_9))
theorem e_fac_S (b : Nat → Int32) (nm : Int32 → Option Int32) (k a : Nat) : e_fac b nm (k + 1) a = if p_in (b a) 48 57 = 0 then
      (if b a = 33 then ((e_fac b nm k (a + 1)).1, (e_fac b nm k (a + 1)).2.1, if (e_fac b nm k (a + 1)).2.2 = 0 then 1 else 0)
       else if b a = 40 then e_close b (e_who b (e_fac b nm k) (a + 1)) else e_leaf b nm a) else (true, e_num b 4 a 0) := rfl
set_option maxHeartbeats 400000 in
theorem x_fac0 (hu : f 7 = nI u) (hn : f 9 = nI n) (hu2 : u < 2) (hn2 : n ≤ 50) (a : Nat) (ha : a ≤ n) : ge_Ret X ge_SH YX12_factor 3 [.ref (ge_ad X.1 76)] (ge_m g r (p_fw f a 5 true)) (some (.int (e_fac (e_b r u n) (e_nm u (f 11) (f 12) (f 13)) 0 a).2.2)) (ge_m g r (p_fw f (e_fac (e_b r u n) (e_nm u (f 11) (f 12) (f 13)) 0 a).2.1 5 (e_fac (e_b r u n) (e_nm u (f 11) (f 12) (f 13)) 0 a).1)) := by
  refine ge_ofA (l := [(0, .ref (ge_ad X.1 76))]) (by decide) (Nat.le_of_ble_eq_true rfl) rfl ?_
  refine ge_aload_n (pc := 0) dX12_factor_0 rfl ?_
  refine ge_aload_n (pc := 1) dX12_factor_1 rfl ?_
  refine gw_get (v := nI _) (pc := 2) dX12_factor_2 fl_X12_108_12 sh_76 rfl rfl ?_
  refine ge_rV1i (pc := 5) dX12_factor_5 cv_X12_111 sh_76 (x_byteAt hu hn hu2 hn2 rfl (by omega)) ⟨by decide, by decide⟩ rfl rfl (Nat.le_of_ble_eq_true rfl) ?_
  refine ge_istore_n (pc := 8) (l' := [(1, _), (0, _)]) dX12_factor_8 (by decide) rfl ?_
  refine ge_iload_n (pc := 9) dX12_factor_9 rfl ?_
  refine ge_rS1i (pc := 10) dX12_factor_10 cs_X12_114 (x_isDigit _) ⟨by decide, by decide⟩ (Nat.le_of_ble_eq_true rfl) ?_
  refine ge_if_eq (pc := 13) 21 dX12_factor_13 (by decide) (fun h_13 => ?_) (fun h_13 => ?_)
  · refine ge_iload_n (pc := 21) dX12_factor_21 rfl ?_
    refine ge_bipush (pc := 22) dX12_factor_22 kb_33 ?_
    refine ge_ic_eq (pc := 24) 39 dX12_factor_24 (by decide) (fun h_24 => ?_) (fun h_24 => ?_)
    · refine ge_aload_n (pc := 39) dX12_factor_39 rfl ?_
      refine gw_get (v := nI _) (pc := 40) dX12_factor_40 fl_X12_136_12 sh_76 rfl rfl ?_
      refine ge_iconst (pc := 43) dX12_factor_43 kc_5 ?_
      refine ge_ic_ne (pc := 44) 52 dX12_factor_44 (by decide) (fun h_44 => ?_) (fun h_44 => ?_)
      · exact absurd rfl h_44
      · refine ge_aload_n (pc := 47) dX12_factor_47 rfl ?_
        refine ge_rV0i (pc := 48) dX12_factor_48 cv_X12_117 sh_76 x_fails ⟨by decide, by decide⟩ rfl rfl (Nat.le_of_ble_eq_true rfl) ?_
        exact ge_iret (pc := 51) rfl dX12_factor_51 (by unfold e_fac; rw [if_pos h_13, if_pos (by simp [*])]; exact ⟨rfl, rfl⟩)
    · refine ge_iload_n (pc := 27) dX12_factor_27 rfl ?_
      refine ge_bipush (pc := 28) dX12_factor_28 kb_40 ?_
      refine ge_ic_eq (pc := 30) 39 dX12_factor_30 (by decide) (fun h_30 => ?_) (fun h_30 => ?_)
      · refine ge_aload_n (pc := 39) dX12_factor_39 rfl ?_
        refine gw_get (v := nI _) (pc := 40) dX12_factor_40 fl_X12_136_12 sh_76 rfl rfl ?_
        refine ge_iconst (pc := 43) dX12_factor_43 kc_5 ?_
        refine ge_ic_ne (pc := 44) 52 dX12_factor_44 (by decide) (fun h_44 => ?_) (fun h_44 => ?_)
        · exact absurd rfl h_44
        · refine ge_aload_n (pc := 47) dX12_factor_47 rfl ?_
          refine ge_rV0i (pc := 48) dX12_factor_48 cv_X12_117 sh_76 x_fails ⟨by decide, by decide⟩ rfl rfl (Nat.le_of_ble_eq_true rfl) ?_
          exact ge_iret (pc := 51) rfl dX12_factor_51 (by unfold e_fac; rw [if_pos h_13, if_pos (by simp [*])]; exact ⟨rfl, rfl⟩)
      · refine ge_aload_n (pc := 33) dX12_factor_33 rfl ?_
        refine ge_iload_n (pc := 34) dX12_factor_34 rfl ?_
        refine ge_rV1i (pc := 35) dX12_factor_35 cv_X12_133 sh_76 (x_named hu hu2) ⟨by decide, by decide⟩ rfl rfl (Nat.le_of_ble_eq_true rfl) ?_
        exact ge_iret (pc := 38) rfl dX12_factor_38 (by unfold e_fac; rw [if_pos h_13, if_neg (by simp [*])]; exact ⟨rfl, rfl⟩)
  · refine ge_aload_n (pc := 16) dX12_factor_16 rfl ?_
    refine ge_rV0i (pc := 17) dX12_factor_17 cv_X12_130 sh_76 (x_number hu hn hu2 hn2 (by omega)) ⟨by decide, by decide⟩ rfl rfl (Nat.le_of_ble_eq_true rfl) ?_
    exact ge_iret (pc := 20) rfl dX12_factor_20 (by unfold e_fac; rw [if_neg h_13]; exact ⟨rfl, rfl⟩)
set_option maxHeartbeats 1000000 in
theorem x_facS (hu : f 7 = nI u) (hn : f 9 = nI n) (hu2 : u < 2) (hn2 : n ≤ 50) {k o : Nat} (ho : o + k = 4) (hF : ∀ a, a ≤ n → ge_Ret X ge_SH YX12_factor (3 + 6 * k) [.ref (ge_ad X.1 76)] (ge_m g r (p_fw f a (o + 1) true)) (some (.int (e_fac (e_b r u n) (e_nm u (f 11) (f 12) (f 13)) k a).2.2)) (ge_m g r (p_fw f (e_fac (e_b r u n) (e_nm u (f 11) (f 12) (f 13)) k a).2.1 (o + 1) (e_fac (e_b r u n) (e_nm u (f 11) (f 12) (f 13)) k a).1))) (hW : ∀ a, a ≤ n → ge_Ret X ge_SH YX12_whole (8 + 6 * k) [.ref (ge_ad X.1 76)] (ge_m g r (p_fw f a (o + 1) true)) (some (.int (e_who (e_b r u n) (e_fac (e_b r u n) (e_nm u (f 11) (f 12) (f 13)) k) a).2.2)) (ge_m g r (p_fw f (e_who (e_b r u n) (e_fac (e_b r u n) (e_nm u (f 11) (f 12) (f 13)) k) a).2.1 (o + 1) (e_who (e_b r u n) (e_fac (e_b r u n) (e_nm u (f 11) (f 12) (f 13)) k) a).1))) (a : Nat) (ha : a ≤ n) : ge_Ret X ge_SH YX12_factor (3 + 6 * (k + 1)) [.ref (ge_ad X.1 76)] (ge_m g r (p_fw f a o true)) (some (.int (e_fac (e_b r u n) (e_nm u (f 11) (f 12) (f 13)) (k + 1) a).2.2)) (ge_m g r (p_fw f (e_fac (e_b r u n) (e_nm u (f 11) (f 12) (f 13)) (k + 1) a).2.1 o (e_fac (e_b r u n) (e_nm u (f 11) (f 12) (f 13)) (k + 1) a).1)) := by
  refine ge_ofA (l := [(0, .ref (ge_ad X.1 76))]) (by decide) (Nat.le_of_ble_eq_true rfl) rfl ?_
  refine ge_aload_n (pc := 0) dX12_factor_0 rfl ?_
  refine ge_aload_n (pc := 1) dX12_factor_1 rfl ?_
  refine gw_get (v := nI _) (pc := 2) dX12_factor_2 fl_X12_108_12 sh_76 rfl rfl ?_
  refine ge_rV1i (pc := 5) dX12_factor_5 cv_X12_111 sh_76 (x_byteAt hu hn hu2 hn2 rfl (by omega)) ⟨by omega, by decide⟩ rfl rfl (Nat.le_of_ble_eq_true rfl) ?_
  refine ge_istore_n (pc := 8) (l' := [(1, _), (0, _)]) dX12_factor_8 (by decide) rfl ?_
  refine ge_iload_n (pc := 9) dX12_factor_9 rfl ?_
  refine ge_rS1i (pc := 10) dX12_factor_10 cs_X12_114 (x_isDigit _) ⟨by omega, by decide⟩ (Nat.le_of_ble_eq_true rfl) ?_
  refine ge_if_eq (pc := 13) 21 dX12_factor_13 (by decide) (fun h_13 => ?_) (fun h_13 => ?_)
  · refine ge_iload_n (pc := 21) dX12_factor_21 rfl ?_
    refine ge_bipush (pc := 22) dX12_factor_22 kb_33 ?_
    refine ge_ic_eq (pc := 24) 39 dX12_factor_24 (by decide) (fun h_24 => ?_) (fun h_24 => ?_)
    · have hl : a < n := e_b_lt (r := r) (u := u) (fun z => by simp [*] at z)
      refine ge_aload_n (pc := 39) dX12_factor_39 rfl ?_
      refine gw_get (v := nI _) (pc := 40) dX12_factor_40 fl_X12_136_12 sh_76 rfl rfl ?_
      refine ge_iconst (pc := 43) dX12_factor_43 kc_5 ?_
      refine ge_ic_ne (pc := 44) 52 dX12_factor_44 (by decide) (fun h_44 => ?_) (fun h_44 => ?_)
      · refine ge_aload_n (pc := 52) dX12_factor_52 rfl ?_
        refine ge_dup (pc := 53) dX12_factor_53 rfl ?_
        refine gw_get (v := nI _) (pc := 54) dX12_factor_54 fl_X12_136_12 sh_76 rfl rfl ?_
        refine ge_iconst (pc := 57) dX12_factor_57 kc_1 ?_
        refine ge_iadd (pc := 58) dX12_factor_58 ?_
        refine gw_op (pc := 59) dX12_factor_59 fp_X12_136_12 sh_76 rfl (nI_1 _) ?_
        refine ge_aload_n (pc := 62) dX12_factor_62 rfl ?_
        refine ge_dup (pc := 63) dX12_factor_63 rfl ?_
        refine gw_get (v := nI _) (pc := 64) dX12_factor_64 fl_X12_108_12 sh_76 rfl rfl ?_
        refine ge_iconst (pc := 67) dX12_factor_67 kc_1 ?_
        refine ge_iadd (pc := 68) dX12_factor_68 ?_
        refine gw_at (pc := 69) dX12_factor_69 fp_X12_108_12 sh_76 rfl (nI_1 _) ?_
        refine ge_iload_n (pc := 72) dX12_factor_72 rfl ?_
        refine ge_bipush (pc := 73) dX12_factor_73 kb_33 ?_
        refine ge_ic_ne (pc := 75) 85 dX12_factor_75 (by decide) (fun h_75 => ?_) (fun h_75 => ?_)
        · exact absurd h_24 h_75
        · refine ge_aload_n (pc := 78) dX12_factor_78 rfl ?_
          refine ge_rV0i (pc := 79) dX12_factor_79 cv_X12_139 sh_76 (hF (a + 1) (by omega)) ⟨by omega, by decide⟩ rfl rfl (Nat.le_of_ble_eq_true rfl) ?_
          refine ge_goto (pc := 82) 89 dX12_factor_82 (by decide) ?_
          refine ge_istore_n (pc := 89) (l' := [(2, _), (1, _), (0, _)]) dX12_factor_89 (by decide) rfl ?_
          refine ge_aload_n (pc := 90) dX12_factor_90 rfl ?_
          refine ge_dup (pc := 91) dX12_factor_91 rfl ?_
          refine gw_get (v := nI _) (pc := 92) dX12_factor_92 fl_X12_136_12 sh_76 rfl rfl ?_
          refine ge_iconst (pc := 95) dX12_factor_95 kc_1 ?_
          refine ge_isub (pc := 96) dX12_factor_96 ?_
          refine gw_op (pc := 97) dX12_factor_97 fp_X12_136_12 sh_76 rfl (nI_pred _) ?_
          refine ge_iload_n (pc := 100) dX12_factor_100 rfl ?_
          refine ge_bipush (pc := 101) dX12_factor_101 kb_33 ?_
          refine ge_ic_ne (pc := 103) 116 dX12_factor_103 (by decide) (fun h_103 => ?_) (fun h_103 => ?_)
          · exact absurd h_24 h_103
          · refine ge_iload_n (pc := 106) dX12_factor_106 rfl ?_
            refine ge_if_ne (pc := 107) 114 dX12_factor_107 (by decide) (fun h_107 => ?_) (fun h_107 => ?_)
            · refine ge_iconst (pc := 114) dX12_factor_114 kc_0 ?_
              exact ge_iret (pc := 115) rfl dX12_factor_115 (by rw [e_fac_S, if_pos h_13, if_pos h_24]; refine ⟨?_, rfl⟩; simp only [h_107, if_true, if_false])
            · refine ge_iconst (pc := 110) dX12_factor_110 kc_1 ?_
              refine ge_goto (pc := 111) 115 dX12_factor_111 (by decide) ?_
              exact ge_iret (pc := 115) rfl dX12_factor_115 (by rw [e_fac_S, if_pos h_13, if_pos h_24]; refine ⟨?_, rfl⟩; simp only [h_107, if_true, if_false])
      · exact absurd ((nI_eq (b := 5) (by omega) (by omega)).mp h_44) (by omega)
    · refine ge_iload_n (pc := 27) dX12_factor_27 rfl ?_
      refine ge_bipush (pc := 28) dX12_factor_28 kb_40 ?_
      refine ge_ic_eq (pc := 30) 39 dX12_factor_30 (by decide) (fun h_30 => ?_) (fun h_30 => ?_)
      · have hl : a < n := e_b_lt (r := r) (u := u) (fun z => by simp [*] at z)
        refine ge_aload_n (pc := 39) dX12_factor_39 rfl ?_
        refine gw_get (v := nI _) (pc := 40) dX12_factor_40 fl_X12_136_12 sh_76 rfl rfl ?_
        refine ge_iconst (pc := 43) dX12_factor_43 kc_5 ?_
        refine ge_ic_ne (pc := 44) 52 dX12_factor_44 (by decide) (fun h_44 => ?_) (fun h_44 => ?_)
        · refine ge_aload_n (pc := 52) dX12_factor_52 rfl ?_
          refine ge_dup (pc := 53) dX12_factor_53 rfl ?_
          refine gw_get (v := nI _) (pc := 54) dX12_factor_54 fl_X12_136_12 sh_76 rfl rfl ?_
          refine ge_iconst (pc := 57) dX12_factor_57 kc_1 ?_
          refine ge_iadd (pc := 58) dX12_factor_58 ?_
          refine gw_op (pc := 59) dX12_factor_59 fp_X12_136_12 sh_76 rfl (nI_1 _) ?_
          refine ge_aload_n (pc := 62) dX12_factor_62 rfl ?_
          refine ge_dup (pc := 63) dX12_factor_63 rfl ?_
          refine gw_get (v := nI _) (pc := 64) dX12_factor_64 fl_X12_108_12 sh_76 rfl rfl ?_
          refine ge_iconst (pc := 67) dX12_factor_67 kc_1 ?_
          refine ge_iadd (pc := 68) dX12_factor_68 ?_
          refine gw_at (pc := 69) dX12_factor_69 fp_X12_108_12 sh_76 rfl (nI_1 _) ?_
          refine ge_iload_n (pc := 72) dX12_factor_72 rfl ?_
          refine ge_bipush (pc := 73) dX12_factor_73 kb_33 ?_
          refine ge_ic_ne (pc := 75) 85 dX12_factor_75 (by decide) (fun h_75 => ?_) (fun h_75 => ?_)
          · refine ge_aload_n (pc := 85) dX12_factor_85 rfl ?_
            refine ge_rV0i (pc := 86) dX12_factor_86 cv_X12_142 sh_76 (hW (a + 1) (by omega)) ⟨by omega, by decide⟩ rfl rfl (Nat.le_of_ble_eq_true rfl) ?_
            refine ge_istore_n (pc := 89) (l' := [(2, _), (1, _), (0, _)]) dX12_factor_89 (by decide) rfl ?_
            refine ge_aload_n (pc := 90) dX12_factor_90 rfl ?_
            refine ge_dup (pc := 91) dX12_factor_91 rfl ?_
            refine gw_get (v := nI _) (pc := 92) dX12_factor_92 fl_X12_136_12 sh_76 rfl rfl ?_
            refine ge_iconst (pc := 95) dX12_factor_95 kc_1 ?_
            refine ge_isub (pc := 96) dX12_factor_96 ?_
            refine gw_op (pc := 97) dX12_factor_97 fp_X12_136_12 sh_76 rfl (nI_pred _) ?_
            refine ge_iload_n (pc := 100) dX12_factor_100 rfl ?_
            refine ge_bipush (pc := 101) dX12_factor_101 kb_33 ?_
            refine ge_ic_ne (pc := 103) 116 dX12_factor_103 (by decide) (fun h_103 => ?_) (fun h_103 => ?_)
            · refine ge_aload_n (pc := 116) dX12_factor_116 rfl ?_
              refine gw_get (v := p_b _) (pc := 117) dX12_factor_117 fl_X12_104_12 sh_76 rfl rfl ?_
              refine ge_if_eq (pc := 120) 148 dX12_factor_120 (by decide) (fun h_120 => ?_) (fun h_120 => ?_)
              · refine ge_aload_n (pc := 148) dX12_factor_148 rfl ?_
                refine ge_rV0i (pc := 149) dX12_factor_149 cv_X12_117 sh_76 x_fails ⟨by omega, by decide⟩ rfl rfl (Nat.le_of_ble_eq_true rfl) ?_
                exact ge_iret (pc := 152) rfl dX12_factor_152 (by rw [e_fac_S, if_pos h_13, if_neg h_24, if_pos h_30]; unfold e_close; rw [if_neg (fun z => by first | exact h_133 z.2 | (rw [p_b_0.mp h_120] at z; exact Bool.noConfusion z.1))]; exact ⟨rfl, rfl⟩)
              · refine ge_aload_n (pc := 123) dX12_factor_123 rfl ?_
                refine ge_aload_n (pc := 124) dX12_factor_124 rfl ?_
                refine gw_get (v := nI _) (pc := 125) dX12_factor_125 fl_X12_108_12 sh_76 rfl rfl ?_
                refine ge_rV1i (pc := 128) dX12_factor_128 cv_X12_111 sh_76 (x_byteAt hu hn hu2 hn2 rfl (by have := (e_who_ok (r := r) (u := u) (e_fac_ok (r := r) (u := u) (n := n) (e_nm_m1 u (f 11) (f 12) (f 13)) k) (a + 1) (by omega)).2; omega)) ⟨by omega, by decide⟩ rfl rfl (Nat.le_of_ble_eq_true rfl) ?_
                refine ge_bipush (pc := 131) dX12_factor_131 kb_41 ?_
                refine ge_ic_ne (pc := 133) 148 dX12_factor_133 (by decide) (fun h_133 => ?_) (fun h_133 => ?_)
                · refine ge_aload_n (pc := 148) dX12_factor_148 rfl ?_
                  refine ge_rV0i (pc := 149) dX12_factor_149 cv_X12_117 sh_76 x_fails ⟨by omega, by decide⟩ rfl rfl (Nat.le_of_ble_eq_true rfl) ?_
                  exact ge_iret (pc := 152) rfl dX12_factor_152 (by rw [e_fac_S, if_pos h_13, if_neg h_24, if_pos h_30]; unfold e_close; rw [if_neg (fun z => by first | exact h_133 z.2 | (rw [p_b_0.mp h_120] at z; exact Bool.noConfusion z.1))]; exact ⟨rfl, rfl⟩)
                · refine ge_aload_n (pc := 136) dX12_factor_136 rfl ?_
                  refine ge_dup (pc := 137) dX12_factor_137 rfl ?_
                  refine gw_get (v := nI _) (pc := 138) dX12_factor_138 fl_X12_108_12 sh_76 rfl rfl ?_
                  refine ge_iconst (pc := 141) dX12_factor_141 kc_1 ?_
                  refine ge_iadd (pc := 142) dX12_factor_142 ?_
                  refine gw_at (pc := 143) dX12_factor_143 fp_X12_108_12 sh_76 rfl (nI_1 _) ?_
                  refine ge_iload_n (pc := 146) dX12_factor_146 rfl ?_
                  exact ge_iret (pc := 147) rfl dX12_factor_147 (by rw [e_fac_S, if_pos h_13, if_neg h_24, if_pos h_30]; unfold e_close; rw [if_pos ⟨p_b_n.mp h_120, h_133⟩]; refine ⟨rfl, ?_⟩; rw [p_b_n.mp h_120])
            · exact absurd h_103 h_24
          · exact absurd h_75 h_24
        · exact absurd ((nI_eq (b := 5) (by omega) (by omega)).mp h_44) (by omega)
      · refine ge_aload_n (pc := 33) dX12_factor_33 rfl ?_
        refine ge_iload_n (pc := 34) dX12_factor_34 rfl ?_
        refine ge_rV1i (pc := 35) dX12_factor_35 cv_X12_133 sh_76 (x_named hu hu2) ⟨by omega, by decide⟩ rfl rfl (Nat.le_of_ble_eq_true rfl) ?_
        exact ge_iret (pc := 38) rfl dX12_factor_38 (by rw [e_fac_S, if_pos h_13, if_neg h_24, if_neg h_30]; exact ⟨rfl, rfl⟩)
  · refine ge_aload_n (pc := 16) dX12_factor_16 rfl ?_
    refine ge_rV0i (pc := 17) dX12_factor_17 cv_X12_130 sh_76 (x_number hu hn hu2 hn2 (by omega)) ⟨by omega, by decide⟩ rfl rfl (Nat.le_of_ble_eq_true rfl) ?_
    exact ge_iret (pc := 20) rfl dX12_factor_20 (by rw [e_fac_S, if_neg h_13]; exact ⟨rfl, rfl⟩)
theorem x_whoOf (hu : f 7 = nI u) (hn : f 9 = nI n) (hu2 : u < 2) (hn2 : n ≤ 50) {o k : Nat} (hF : ∀ a, a ≤ n → ge_Ret X ge_SH YX12_factor (3 + 6 * k) [.ref (ge_ad X.1 76)] (ge_m g r (p_fw f a o true)) (some (.int ((e_fac (e_b r u n) (e_nm u (f 11) (f 12) (f 13)) k) a).2.2)) (ge_m g r (p_fw f ((e_fac (e_b r u n) (e_nm u (f 11) (f 12) (f 13)) k) a).2.1 o ((e_fac (e_b r u n) (e_nm u (f 11) (f 12) (f 13)) k) a).1))) (a : Nat) (ha : a ≤ n) : ge_Ret X ge_SH YX12_whole (8 + 6 * k) [.ref (ge_ad X.1 76)] (ge_m g r (p_fw f a o true)) (some (.int (e_who (e_b r u n) (e_fac (e_b r u n) (e_nm u (f 11) (f 12) (f 13)) k) a).2.2)) (ge_m g r (p_fw f (e_who (e_b r u n) (e_fac (e_b r u n) (e_nm u (f 11) (f 12) (f 13)) k) a).2.1 o (e_who (e_b r u n) (e_fac (e_b r u n) (e_nm u (f 11) (f 12) (f 13)) k) a).1)) := by
  have ok := e_fac_ok (r := r) (u := u) (n := n) (e_nm_m1 u (f 11) (f 12) (f 13)) k
  have h1 := fun a ha => x_product (X := X) (g := g) hu hn hu2 hn2 (by omega) ok hF a ha
  have h2 := fun a ha => x_sum (X := X) (g := g) hu hn hu2 hn2 (by omega) (e_pro_ok ok) h1 a ha
  have h3 := fun a ha => x_compared (X := X) (g := g) hu hn hu2 hn2 (by omega) (e_sum_ok ok) h2 a ha
  have h4 := fun a ha => x_both (X := X) (g := g) hu hn hu2 hn2 (by omega) (e_cmp_ok ok) h3 a ha
  have h5 := x_whole (X := X) (g := g) hu hn hu2 hn2 (by omega) (e_and_ok ok) h4 a ha
  have e : 3 + 6 * k + 1 + 1 + 1 + 1 + 1 = 8 + 6 * k := by omega
  rw [e] at h5
  exact h5
theorem x_factor (hu : f 7 = nI u) (hn : f 9 = nI n) (hu2 : u < 2) (hn2 : n ≤ 50) : ∀ (k o : Nat), o + k = 5 → ∀ a, a ≤ n → ge_Ret X ge_SH YX12_factor (3 + 6 * k) [.ref (ge_ad X.1 76)] (ge_m g r (p_fw f a o true)) (some (.int ((e_fac (e_b r u n) (e_nm u (f 11) (f 12) (f 13)) k) a).2.2)) (ge_m g r (p_fw f ((e_fac (e_b r u n) (e_nm u (f 11) (f 12) (f 13)) k) a).2.1 o ((e_fac (e_b r u n) (e_nm u (f 11) (f 12) (f 13)) k) a).1)) := by
  intro k
  induction k with
  | zero =>
    intro o ho a ha
    obtain rfl : o = 5 := by omega
    exact x_fac0 hu hn hu2 hn2 a ha
  | succ k ih =>
    intro o ho a ha
    exact x_facS hu hn hu2 hn2 (by omega) (ih (o + 1) (by omega)) (x_whoOf hu hn hu2 hn2 (ih (o + 1) (by omega))) a ha
theorem x_whole0 (hu : f 7 = nI u) (hn : f 9 = nI n) (hu2 : u < 2) (hn2 : n ≤ 50) : ge_Ret X ge_SH YX12_whole 38 [.ref (ge_ad X.1 76)] (ge_m g r (p_fw f 0 0 true)) (some (.int (e_who (e_b r u n) (e_fac (e_b r u n) (e_nm u (f 11) (f 12) (f 13)) 5) 0).2.2)) (ge_m g r (p_fw f (e_who (e_b r u n) (e_fac (e_b r u n) (e_nm u (f 11) (f 12) (f 13)) 5) 0).2.1 0 (e_who (e_b r u n) (e_fac (e_b r u n) (e_nm u (f 11) (f 12) (f 13)) 5) 0).1)) :=
  x_whoOf (k := 5) hu hn hu2 hn2 (x_factor hu hn hu2 hn2 5 0 rfl) 0 (Nat.zero_le _)
def p_f1 (f : Nat → Int32) (u n : Nat) (A B C : Int32) : Nat → Int32 := fun k => if k = 7 then nI u else if k = 9 then nI n else if k = 11 then A else if k = 12 then B else if k = 13 then C else f k
/-- a text's worth: how the walk went, where it ended, its value -/
def e_all (r : Nat → Int32) (u n : Nat) (A B C : Int32) : p_R := e_who (e_b r u n) (e_fac (e_b r u n) (e_nm u A B C) 5) 0
theorem p_f1_fw (f : Nat → Int32) (u n : Nat) (A B C : Int32) : upd (upd (upd (upd (upd (upd (upd (upd f 7 (nI u)) 8 0) 9 (nI n)) 10 0) 14 1) 11 A) 12 B) 13 C = p_fw (p_f1 f u n A B C) 0 0 true := by
  funext k
  rcases (by omega : k = 7 ∨ k = 8 ∨ k = 9 ∨ k = 10 ∨ k = 11 ∨ k = 12 ∨ k = 13 ∨ k = 14 ∨ (k ≠ 7 ∧ k ≠ 8 ∧ k ≠ 9 ∧ k ≠ 10 ∧ k ≠ 11 ∧ k ≠ 12 ∧ k ≠ 13 ∧ k ≠ 14)) with rfl | rfl | rfl | rfl | rfl | rfl | rfl | rfl | h
  · rfl
  · rfl
  · rfl
  · rfl
  · rfl
  · rfl
  · rfl
  · rfl
  · simp [upd, p_fw, p_f1, h]
set_option maxHeartbeats 400000 in
theorem x_walks {w A B C : Int32} (hw : w = nI u) (hu2 : u < 2) (hn2 : n ≤ 50) (hr : r (6 + u) = nI n) : ge_Ret X ge_SH YX12_walks 39 [.ref (ge_ad X.1 76), .int w, .int A, .int B, .int C] (ge_m g r f) (some (.int (e_all r u n A B C).2.2)) (ge_m g r (p_fw (p_f1 f u n A B C) (e_all r u n A B C).2.1 0 ((e_all r u n A B C).1 && decide ((e_all r u n A B C).2.1 = n)))) := by
  refine ge_ofA (l := [(0, .ref (ge_ad X.1 76)), (1, .int w), (2, .int A), (3, .int B), (4, .int C)]) (by decide) (Nat.le_of_ble_eq_true rfl) rfl ?_
  refine ge_aload_n (pc := 0) dX12_walks_0 rfl ?_
  refine ge_iload_n (pc := 1) dX12_walks_1 rfl ?_
  refine gm_puti (pc := 2) dX12_walks_2 fp_X12_101_12 sh_76 rfl ?_
  refine ge_aload_n (pc := 5) dX12_walks_5 rfl ?_
  refine ge_iconst (pc := 6) dX12_walks_6 kc_0 ?_
  refine gm_puti (pc := 7) dX12_walks_7 fp_X12_108_12 sh_76 rfl ?_
  refine ge_aload_n (pc := 10) dX12_walks_10 rfl ?_
  refine ge_aload_n (pc := 11) dX12_walks_11 rfl ?_
  refine ge_getr (pc := 12) dX12_walks_12 fl_X12_7_12 sh_76 rfl ?_
  refine ge_bipush (pc := 15) dX12_walks_15 kb_6 ?_
  refine ge_iload_n (pc := 17) dX12_walks_17 rfl ?_
  refine ge_iadd (pc := 18) dX12_walks_18 ?_
  refine gm_ald (pc := 19) dX12_walks_19 (ge_nadd kl_6 hw) (by omega) ?_
  rw [hr]
  refine gm_puti (pc := 20) dX12_walks_20 fp_X12_97_12 sh_76 rfl ?_
  refine ge_aload_n (pc := 23) dX12_walks_23 rfl ?_
  refine ge_iconst (pc := 24) dX12_walks_24 kc_0 ?_
  refine gm_puti (pc := 25) dX12_walks_25 fp_X12_136_12 sh_76 rfl ?_
  refine ge_aload_n (pc := 28) dX12_walks_28 rfl ?_
  refine ge_iconst (pc := 29) dX12_walks_29 kc_1 ?_
  refine gm_putz (pc := 30) dX12_walks_30 fp_X12_104_12 sh_76 rfl ⟨rfl, rfl⟩ ?_
  refine ge_aload_n (pc := 33) dX12_walks_33 rfl ?_
  refine ge_iload_n (pc := 34) dX12_walks_34 rfl ?_
  refine gm_puti (pc := 35) dX12_walks_35 fp_X12_121_12 sh_76 rfl ?_
  refine ge_aload_n (pc := 38) dX12_walks_38 rfl ?_
  refine ge_iload_n (pc := 39) dX12_walks_39 rfl ?_
  refine gm_puti (pc := 40) dX12_walks_40 fp_X12_124_12 sh_76 rfl ?_
  refine ge_aload_n (pc := 43) dX12_walks_43 rfl ?_
  refine ge_iload (pc := 44) dX12_walks_44 rfl ?_
  refine gm_puti (pc := 46) dX12_walks_46 fp_X12_127_12 sh_76 rfl ?_
  refine ge_aload_n (pc := 49) dX12_walks_49 rfl ?_
  rw [hw, p_f1_fw]
  refine ge_rV0i (pc := 50) dX12_walks_50 cv_X12_142 sh_76 (x_whole0 (X := X) (g := g) (r := r) (f := p_f1 f u n A B C) (u := u) (n := n) rfl rfl hu2 hn2) ⟨by decide, by decide⟩ rfl rfl (Nat.le_of_ble_eq_true rfl) ?_
  refine ge_istore (pc := 53) (l' := [(5, _), (0, _), (1, _), (2, _), (3, _), (4, _)]) dX12_walks_53 (by decide) rfl ?_
  have hat : (e_all r u n A B C).2.1 ≤ n := (e_who_ok (r := r) (u := u) (e_fac_ok (r := r) (u := u) (n := n) (e_nm_m1 u A B C) 5) 0 (Nat.zero_le _)).2
  refine ge_aload_n (pc := 55) dX12_walks_55 rfl ?_
  refine ge_aload_n (pc := 56) dX12_walks_56 rfl ?_
  refine gw_get (v := p_b (e_all r u n A B C).1) (pc := 57) dX12_walks_57 fl_X12_104_12 sh_76 rfl rfl ?_
  refine ge_cutz (J := 79) (p_b ((e_all r u n A B C).1 && decide ((e_all r u n A B C).2.1 = n))) ?_ (fun J_79 => ?_)
  · refine gw_gd (pc := 79) dX12_walks_79 fp_X12_104_12 sh_76 rfl rfl ?_
    refine ge_iload (pc := 82) dX12_walks_82 rfl ?_
    exact ge_iret (pc := 84) rfl dX12_walks_84 ⟨rfl, rfl⟩
  · refine ge_if_eq (pc := 60) 78 dX12_walks_60 (by decide) (fun h_60 => ?_) (fun h_60 => ?_)
    · refine ge_iconst (pc := 78) dX12_walks_78 kc_0 ?_
      (refine ge_tov ?_ J_79; first | (rw [p_b_0.mp h_60]; rfl) | (rw [p_b_n.mp h_60, decide_eq_true ((nI_eq (by omega) (by omega)).mp h_71)]; rfl) | (rw [p_b_n.mp h_60, decide_eq_false (fun z => h_71 (by rw [z]))]; rfl))
    · refine ge_aload_n (pc := 63) dX12_walks_63 rfl ?_
      refine gw_get (v := nI (e_all r u n A B C).2.1) (pc := 64) dX12_walks_64 fl_X12_108_12 sh_76 rfl rfl ?_
      refine ge_aload_n (pc := 67) dX12_walks_67 rfl ?_
      refine gw_get (v := nI n) (pc := 68) dX12_walks_68 fl_X12_97_12 sh_76 rfl rfl ?_
      refine ge_ic_ne (pc := 71) 78 dX12_walks_71 (by decide) (fun h_71 => ?_) (fun h_71 => ?_)
      · refine ge_iconst (pc := 78) dX12_walks_78 kc_0 ?_
        (refine ge_tov ?_ J_79; first | (rw [p_b_0.mp h_60]; rfl) | (rw [p_b_n.mp h_60, decide_eq_true ((nI_eq (by omega) (by omega)).mp h_71)]; rfl) | (rw [p_b_n.mp h_60, decide_eq_false (fun z => h_71 (by rw [z]))]; rfl))
      · refine ge_iconst (pc := 74) dX12_walks_74 kc_1 ?_
        refine ge_goto (pc := 75) 79 dX12_walks_75 (by decide) ?_
        (refine ge_tov ?_ J_79; first | (rw [p_b_0.mp h_60]; rfl) | (rw [p_b_n.mp h_60, decide_eq_true ((nI_eq (by omega) (by omega)).mp h_71)]; rfl) | (rw [p_b_n.mp h_60, decide_eq_false (fun z => h_71 (by rw [z]))]; rfl))
def p_most (u : Nat) : Int32 := if u = 0 then 99 else 1
def p_law (r : Nat → Int32) (u : Nat) (a b c : Int32) : Int32 := if r (6 + u) < 0 then p_held (if u = 0 then a + b else p_rem c 2) 0 (p_most u) else p_held (e_all r u (r (6 + u)).toNatClampNeg a b c).2.2 0 (p_most u)
/-- the size of a text: below 0 (none), or at most 50 -/
def p_sz (r : Nat → Int32) (u : Nat) : Prop := r (6 + u) < 0 ∨ ∃ n, n ≤ 50 ∧ r (6 + u) = nI n
theorem fw_out (f : Nat → Int32) (u n : Nat) (A B C : Int32) (a o : Nat) (q : Bool) (k : Nat) (hk : ¬ (7 ≤ k ∧ k ≤ 14)) : p_fw (p_f1 f u n A B C) a o q k = f k := by
  simp only [p_fw, p_f1]
  repeat' split
  all_goals first | rfl | omega
theorem ge_M_mono {S : List ge_S} {y : ge_Y} {d : Nat} {a : List Value} {Q Q' : Option Value → ge_G → Prop} (hq : ∀ v g, Q v g → Q' v g) (h : ge_M X S y d a g Q) : ge_M X S y d a g Q' := by
  intro lc p e h1 h2 h3 s m args below h4 h5 h6 h7
  obtain ⟨n, o, a1, a2, a3, ⟨⟨v, g, b1, b2, b3⟩, b4⟩⟩ := h lc p e h1 h2 h3 s m args below h4 h5 h6 h7
  exact ⟨n, o, a1, a2, a3, ⟨⟨v, g, b1, hq v g b2, b3⟩, b4⟩⟩
theorem q_walks {w A B C : Int32} (hw : w = nI u) (hu2 : u < 2) (hn2 : n ≤ 50) (hr : r (6 + u) = nI n) : ge_N X ge_SH YX12_walks 39 [.ref (ge_ad X.1 76), .int w, .int A, .int B, .int C] (ge_m g r f) (some (.int (e_all r u n A B C).2.2)) (ge_m g r f) := by
  intro g1 hg
  have e7 : g1 77 = r := by funext k; exact hg 77 k (by unfold ge_Z; omega)
  have e1 : g1 = ge_m g1 r (g1 76) := by rw [← e7, ge_m_self]
  have h := x_walks (X := X) (g := g1) (r := r) (f := g1 76) (A := A) (B := B) (C := C) hw hu2 hn2 hr
  rw [← e1] at h
  refine ge_M_mono (fun v2 g2 hq => ?_) h
  obtain ⟨rfl, rfl⟩ := hq
  refine ⟨ge_m g r f, fun q k hz => ?_, rfl, rfl⟩
  by_cases h7 : q = 77
  · subst h7; rfl
  · by_cases h6 : q = 76
    · subst h6
      show p_fw (p_f1 (g1 76) u n A B C) _ 0 _ k = f k
      rw [fw_out _ _ _ _ _ _ _ _ _ _ (fun z => hz (Or.inl ⟨rfl, z⟩))]
      exact hg 76 k hz
    · rw [ge_m_o _ _ _ h7 h6, ge_m_o _ _ _ h7 h6]
      have := hg q k hz
      rw [ge_m_o _ _ _ h7 h6] at this
      exact this
set_option maxHeartbeats 400000 in
theorem k_lawOf {w A B C : Int32} (hw : w = nI u) (hu2 : u < 2) (hz : p_sz r u) : ge_N X ge_SH YX12_lawOf 40 [.ref (ge_ad X.1 76), .int w, .int A, .int B, .int C] (ge_m g r f) (some (.int (p_law r u A B C))) (ge_m g r f) := by
  have hu0 : w = 0 ↔ u = 0 := by rw [hw]; exact nI_eq (b := 0) (by omega) (by omega)
  refine gq_ofB (l := [(0, .ref (ge_ad X.1 76)), (1, .int w), (2, .int A), (3, .int B), (4, .int C)]) (by decide) (Nat.le_of_ble_eq_true rfl) rfl ?_
  refine gq_iload_n (pc := 0) dX12_lawOf_0 rfl ?_
  refine gq_cutz (J := 10) (p_most u) ?_ (fun J_10 => ?_)
  · refine gq_istore (pc := 10) (l' := [(5, _), (0, _), (1, _), (2, _), (3, _), (4, _)]) dX12_lawOf_10 (by decide) rfl ?_
    refine gq_aload_n (pc := 12) dX12_lawOf_12 rfl ?_
    refine gq_getr (pc := 13) dX12_lawOf_13 fl_X12_7_12 sh_76 rfl ?_
    refine gq_bipush (pc := 16) dX12_lawOf_16 kb_6 ?_
    refine gq_iload_n (pc := 18) dX12_lawOf_18 rfl ?_
    refine gq_iadd (pc := 19) dX12_lawOf_19 ?_
    refine qm_ald (pc := 20) dX12_lawOf_20 (ge_nadd kl_6 hw) (by omega) ?_
    refine gq_if_lt (pc := 21) 40 dX12_lawOf_21 (by decide) (fun h_21 => ?_) (fun h_21 => ?_)
    · refine gq_iload_n (pc := 40) dX12_lawOf_40 rfl ?_
      refine gq_cutz (J := 54) ((if u = 0 then A + B else p_rem C 2)) ?_ (fun J_54 => ?_)
      · refine gq_iconst (pc := 54) dX12_lawOf_54 kc_0 ?_
        refine gq_iload (pc := 55) dX12_lawOf_55 rfl ?_
        refine gq_rS3i (pc := 57) dX12_lawOf_57 cs_X12_161 (k_held _ _ _) ⟨by decide, by decide⟩ (Nat.le_of_ble_eq_true rfl) ?_
        exact gq_iret (pc := 60) rfl dX12_lawOf_60 ⟨by unfold p_law; rw [if_pos h_21], rfl⟩
      · refine gq_if_ne (pc := 41) 50 dX12_lawOf_41 (by decide) (fun h_41 => ?_) (fun h_41 => ?_)
        · refine gq_iload (pc := 50) dX12_lawOf_50 rfl ?_
          refine gq_iconst (pc := 52) dX12_lawOf_52 kc_2 ?_
          refine gq_irem (pc := 53) dX12_lawOf_53 (by decide) rfl ?_
          (refine gq_tov ?_ J_54; first | (rw [if_pos (hu0.mp h_41)]; done) | (rw [if_neg (fun z => h_41 (hu0.mpr z))]; rfl))
        · refine gq_iload_n (pc := 44) dX12_lawOf_44 rfl ?_
          refine gq_iload_n (pc := 45) dX12_lawOf_45 rfl ?_
          refine gq_iadd (pc := 46) dX12_lawOf_46 ?_
          refine gq_goto (pc := 47) 54 dX12_lawOf_47 (by decide) ?_
          (refine gq_tov ?_ J_54; first | (rw [if_pos (hu0.mp h_41)]; done) | (rw [if_neg (fun z => h_41 (hu0.mpr z))]; rfl))
    · obtain ⟨n, hn2, hr⟩ : ∃ n, n ≤ 50 ∧ r (6 + u) = nI n := by rcases hz with h | h; exact absurd h h_21; exact h
      refine gq_aload_n (pc := 24) dX12_lawOf_24 rfl ?_
      refine gq_iload_n (pc := 25) dX12_lawOf_25 rfl ?_
      refine gq_iload_n (pc := 26) dX12_lawOf_26 rfl ?_
      refine gq_iload_n (pc := 27) dX12_lawOf_27 rfl ?_
      refine gq_iload (pc := 28) dX12_lawOf_28 rfl ?_
      refine gq_rV4i (pc := 30) dX12_lawOf_30 cv_X12_157 sh_76 (q_walks hw hu2 hn2 hr) ⟨by decide, by decide⟩ rfl rfl (Nat.le_of_ble_eq_true rfl) ?_
      refine gq_iconst (pc := 33) dX12_lawOf_33 kc_0 ?_
      refine gq_iload (pc := 34) dX12_lawOf_34 rfl ?_
      refine gq_rS3i (pc := 36) dX12_lawOf_36 cs_X12_161 (k_held _ _ _) ⟨by decide, by decide⟩ (Nat.le_of_ble_eq_true rfl) ?_
      exact gq_iret (pc := 39) rfl dX12_lawOf_39 ⟨by unfold p_law; rw [if_neg h_21, hr, nI_clamp (by omega)], rfl⟩
  · refine gq_if_ne (pc := 1) 9 dX12_lawOf_1 (by decide) (fun h_1 => ?_) (fun h_1 => ?_)
    · refine gq_iconst (pc := 9) dX12_lawOf_9 kc_1 ?_
      (refine gq_tov ?_ J_10; first | (rw [p_most, if_pos (hu0.mp h_1)]; done) | (rw [p_most, if_neg (fun z => h_1 (hu0.mpr z))]; done))
    · refine gq_bipush (pc := 4) dX12_lawOf_4 kb_99 ?_
      refine gq_goto (pc := 6) 10 dX12_lawOf_6 (by decide) ?_
      (refine gq_tov ?_ J_10; first | (rw [p_most, if_pos (hu0.mp h_1)]; done) | (rw [p_most, if_neg (fun z => h_1 (hu0.mpr z))]; done))
end P1
