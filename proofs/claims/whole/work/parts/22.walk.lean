section P1
variable {X : ge_X} {g : ge_G} {r f : Nat → Int32} {u n : Nat}
set_option maxHeartbeats 400000 in
theorem x_in (v a b : Int32) : ge_Ret X ge_SH YX12_in 0 [.int v, .int a, .int b] g (some (.int (p_in v a b))) g := by
  refine ge_ofA (l := [(0, .int v), (1, .int a), (2, .int b)]) (by decide) (Nat.le_of_ble_eq_true rfl) rfl ?_
  refine ge_iload_n (pc := 0) dX12_in_0 rfl ?_
  refine ge_iload_n (pc := 1) dX12_in_1 rfl ?_
  refine ge_ic_lt (pc := 2) 14 dX12_in_2 (by decide) (fun h_2 => ?_) (fun h_2 => ?_)
  · refine ge_iconst (pc := 14) dX12_in_14 kc_0 ?_
    exact ge_zret (pc := 15) rfl rfl dX12_in_15 ⟨by simp only [p_in, *, if_true, if_false], rfl⟩
  · refine ge_iload_n (pc := 5) dX12_in_5 rfl ?_
    refine ge_iload_n (pc := 6) dX12_in_6 rfl ?_
    refine ge_ic_gt (pc := 7) 14 dX12_in_7 (by decide) (fun h_7 => ?_) (fun h_7 => ?_)
    · refine ge_iconst (pc := 14) dX12_in_14 kc_0 ?_
      exact ge_zret (pc := 15) rfl rfl dX12_in_15 ⟨by simp only [p_in, *, if_true, if_false], rfl⟩
    · refine ge_iconst (pc := 10) dX12_in_10 kc_1 ?_
      refine ge_goto (pc := 11) 15 dX12_in_11 (by decide) ?_
      exact ge_zret (pc := 15) rfl rfl dX12_in_15 ⟨by simp only [p_in, *, if_true, if_false], rfl⟩
set_option maxHeartbeats 400000 in
theorem x_isDigit (e : Int32) : ge_Ret X ge_SH YX12_isDigit 1 [.int e] g (some (.int (p_in e 48 57))) g := by
  refine ge_ofA (l := [(0, .int e)]) (by decide) (Nat.le_of_ble_eq_true rfl) rfl ?_
  refine ge_iload_n (pc := 0) dX12_isDigit_0 rfl ?_
  refine ge_bipush (pc := 1) dX12_isDigit_1 kb_48 ?_
  refine ge_bipush (pc := 3) dX12_isDigit_3 kb_57 ?_
  refine ge_rS3i (pc := 5) dX12_isDigit_5 cs_X12_41 (x_in _ _ _) ⟨by decide, by decide⟩ (Nat.le_of_ble_eq_true rfl) ?_
  exact ge_zret (pc := 8) rfl (p_in_b _ _ _) dX12_isDigit_8 ⟨rfl, rfl⟩
set_option maxHeartbeats 400000 in
theorem x_fails {a o : Nat} {q : Bool} : ge_Ret X ge_SH YX12_fails 0 [.ref (ge_ad X.1 76)] (ge_m g r (p_fw f a o q)) (some (.int 0)) (ge_m g r (p_fw f a o false)) := by
  refine ge_ofA (l := [(0, .ref (ge_ad X.1 76))]) (by decide) (Nat.le_of_ble_eq_true rfl) rfl ?_
  refine ge_aload_n (pc := 0) dX12_fails_0 rfl ?_
  refine ge_iconst (pc := 1) dX12_fails_1 kc_0 ?_
  refine gw_gd (pc := 2) dX12_fails_2 fp_X12_104_12 sh_76 rfl p_b_f.symm ?_
  refine ge_iconst (pc := 5) dX12_fails_5 kc_0 ?_
  exact ge_iret (pc := 6) rfl dX12_fails_6 ⟨rfl, rfl⟩
set_option maxHeartbeats 400000 in
theorem x_byteAt {a o k : Nat} {q : Bool} {i : Int32} (hu : f 7 = nI u) (hn : f 9 = nI n) (hu2 : u < 2) (hn2 : n ≤ 50) (hk : i = nI k) (hk2 : k ≤ 50) : ge_Ret X ge_SH YX12_byteAt 0 [.ref (ge_ad X.1 76), .int i] (ge_m g r (p_fw f a o q)) (some (.int (e_b r u n k))) (ge_m g r (p_fw f a o q)) := by
  refine ge_ofA (l := [(0, .ref (ge_ad X.1 76)), (1, .int i)]) (by decide) (Nat.le_of_ble_eq_true rfl) rfl ?_
  refine ge_iload_n (pc := 0) dX12_byteAt_0 rfl ?_
  refine ge_aload_n (pc := 1) dX12_byteAt_1 rfl ?_
  refine gw_get (v := nI n) (pc := 2) dX12_byteAt_2 fl_X12_97_12 sh_76 rfl hn ?_
  refine ge_ic_ge (pc := 5) 29 dX12_byteAt_5 (by decide) (fun h_5 => ?_) (fun h_5 => ?_)
  · have hk3 : ¬ k < n := Nat.not_lt.mpr ((nI_leI (by omega) (by omega)).mp (hk ▸ h_5))
    refine ge_iconst (pc := 29) dX12_byteAt_29 kc_m1 ?_
    exact ge_iret (pc := 30) rfl dX12_byteAt_30 ⟨by simp [e_b, hk3], rfl⟩
  · have hk3 : k < n := Nat.lt_of_not_le fun z => h_5 (by rw [hk]; exact (nI_leI (by omega) (by omega)).mpr z)
    refine ge_aload_n (pc := 8) dX12_byteAt_8 rfl ?_
    refine ge_getr (pc := 9) dX12_byteAt_9 fl_X12_7_12 sh_76 rfl ?_
    refine ge_sipush (pc := 12) dX12_byteAt_12 kq_144 ?_
    refine ge_bipush (pc := 15) dX12_byteAt_15 kb_50 ?_
    refine ge_aload_n (pc := 17) dX12_byteAt_17 rfl ?_
    refine gw_get (v := nI u) (pc := 18) dX12_byteAt_18 fl_X12_101_12 sh_76 rfl hu ?_
    refine ge_imul (pc := 21) dX12_byteAt_21 ?_
    refine ge_iadd (pc := 22) dX12_byteAt_22 ?_
    refine ge_iload_n (pc := 23) dX12_byteAt_23 rfl ?_
    refine ge_iadd (pc := 24) dX12_byteAt_24 ?_
    refine gm_ald (pc := 25) dX12_byteAt_25 (ge_nadd (ge_nadd kl_144 (ge_nmul kl_50 rfl)) hk) (by omega) ?_
    refine ge_goto (pc := 26) 30 dX12_byteAt_26 (by decide) ?_
    exact ge_iret (pc := 30) rfl dX12_byteAt_30 ⟨by simp [e_b, hk3], rfl⟩
theorem e_num_0 (b : Nat → Int32) (a : Nat) (v : Int32) : e_num b 0 a v = (a, v) := rfl
theorem e_num_n (b : Nat → Int32) (F a : Nat) (v : Int32) (h : p_in (b a) 48 57 = 0) : e_num b (F + 1) a v = (a, v) := if_pos h
theorem e_num_y (b : Nat → Int32) (F a : Nat) (v : Int32) (h : ¬ p_in (b a) 48 57 = 0) : e_num b (F + 1) a v = e_num b F (a + 1) (10 * v + b a - 48) := if_neg h
set_option maxHeartbeats 400000 in
theorem x_number {a o : Nat} {q : Bool} (hu : f 7 = nI u) (hn : f 9 = nI n) (hu2 : u < 2) (hn2 : n ≤ 50) (ha : a ≤ n) : ge_Ret X ge_SH YX12_number 2 [.ref (ge_ad X.1 76)] (ge_m g r (p_fw f a o q)) (some (.int (e_num (e_b r u n) 4 a 0).2)) (ge_m g r (p_fw f (e_num (e_b r u n) 4 a 0).1 o q)) := by
  refine ge_ofA (l := [(0, .ref (ge_ad X.1 76))]) (by decide) (Nat.le_of_ble_eq_true rfl) rfl ?_
  generalize hR : e_num (e_b r u n) 4 a 0 = R
  have key : ∀ (F c a : Nat) (v : Int32), c + F = 4 → a ≤ n → e_num (e_b r u n) F a v = R → ge_A X ge_SH YX12_number 2 (fun v2 g2 => v2 = some (.int R.2) ∧ g2 = (ge_m g r (p_fw f R.1 o q))) 4 [(2, .int (nI c)), (1, .int v), (0, .ref (ge_ad X.1 76))] [] (ge_m g r (p_fw f a o q)) := by
    intro F
    induction F with
    | zero =>
      intro c a v hc ha he
      obtain rfl : c = 4 := by omega
      subst he
      refine ge_iload_n (pc := 4) dX12_number_4 rfl ?_
      refine ge_iconst (pc := 5) dX12_number_5 kc_4 ?_
      refine ge_ic_ge (pc := 6) 56 dX12_number_6 (by decide) (fun h_6 => ?_) (fun h_6 => ?_)
      · refine ge_iload_n (pc := 56) dX12_number_56 rfl ?_
        exact ge_iret (pc := 57) rfl dX12_number_57 ⟨rfl, rfl⟩
      · exact absurd (Int32.le_refl _) h_6
    | succ F ih =>
      intro c a v hc ha he
      have hne : ¬ (4 : Int32) ≤ nI c := fun z => by have := (nI_leI (a := 4) (by omega) (by omega)).mp z; omega
      refine ge_iload_n (pc := 4) dX12_number_4 rfl ?_
      refine ge_iconst (pc := 5) dX12_number_5 kc_4 ?_
      refine ge_ic_ge (pc := 6) 56 dX12_number_6 (by decide) (fun h_6 => ?_) (fun h_6 => ?_)
      · exact absurd h_6 hne
      · refine ge_aload_n (pc := 9) dX12_number_9 rfl ?_
        refine ge_aload_n (pc := 10) dX12_number_10 rfl ?_
        refine gw_get (v := nI _) (pc := 11) dX12_number_11 fl_X12_108_12 sh_76 rfl rfl ?_
        refine ge_rV1i (pc := 14) dX12_number_14 cv_X12_111 sh_76 (x_byteAt hu hn hu2 hn2 rfl (by omega)) ⟨by decide, by decide⟩ rfl rfl (Nat.le_of_ble_eq_true rfl) ?_
        refine ge_rS1i (pc := 17) dX12_number_17 cs_X12_114 (x_isDigit _) ⟨by decide, by decide⟩ (Nat.le_of_ble_eq_true rfl) ?_
        refine ge_if_eq (pc := 20) 56 dX12_number_20 (by decide) (fun h_20 => ?_) (fun h_20 => ?_)
        · rw [e_num_n _ _ _ _ h_20] at he
          subst he
          refine ge_iload_n (pc := 56) dX12_number_56 rfl ?_
          exact ge_iret (pc := 57) rfl dX12_number_57 ⟨rfl, rfl⟩
        · rw [e_num_y _ _ _ _ h_20] at he
          have hl : a < n := e_b_lt (r := r) (u := u) (fun z => h_20 (by rw [z]; decide))
          refine ge_bipush (pc := 23) dX12_number_23 kb_10 ?_
          refine ge_iload_n (pc := 25) dX12_number_25 rfl ?_
          refine ge_imul (pc := 26) dX12_number_26 ?_
          refine ge_aload_n (pc := 27) dX12_number_27 rfl ?_
          refine ge_aload_n (pc := 28) dX12_number_28 rfl ?_
          refine gw_get (v := nI _) (pc := 29) dX12_number_29 fl_X12_108_12 sh_76 rfl rfl ?_
          refine ge_rV1i (pc := 32) dX12_number_32 cv_X12_111 sh_76 (x_byteAt hu hn hu2 hn2 rfl (by omega)) ⟨by decide, by decide⟩ rfl rfl (Nat.le_of_ble_eq_true rfl) ?_
          refine ge_iadd (pc := 35) dX12_number_35 ?_
          refine ge_bipush (pc := 36) dX12_number_36 kb_48 ?_
          refine ge_isub (pc := 38) dX12_number_38 ?_
          refine ge_istore_n (pc := 39) (l' := [(1, _), (2, _), (0, _)]) dX12_number_39 (by decide) rfl ?_
          refine ge_aload_n (pc := 40) dX12_number_40 rfl ?_
          refine ge_dup (pc := 41) dX12_number_41 rfl ?_
          refine gw_get (v := nI _) (pc := 42) dX12_number_42 fl_X12_108_12 sh_76 rfl rfl ?_
          refine ge_iconst (pc := 45) dX12_number_45 kc_1 ?_
          refine ge_iadd (pc := 46) dX12_number_46 ?_
          refine gw_at (pc := 47) dX12_number_47 fp_X12_108_12 sh_76 rfl (nI_1 _) ?_
          refine ge_iinc (pc := 50) (l' := [(2, _), (1, _), (0, _)]) dX12_number_50 rfl (ge_inc1 c) (by decide) rfl ?_
          refine ge_goto (pc := 53) 4 dX12_number_53 (by decide) ?_
          exact ih (c + 1) (a + 1) _ (by omega) (by omega) he
  refine ge_iconst (pc := 0) dX12_number_0 kc_0 ?_
  refine ge_istore_n (pc := 1) (l' := [(1, _), (0, _)]) dX12_number_1 (by decide) rfl ?_
  refine ge_iconst (pc := 2) dX12_number_2 kc_0 ?_
  refine ge_istore_n (pc := 3) (l' := [(2, _), (1, _), (0, _)]) dX12_number_3 (by decide) rfl ?_
  exact key 4 0 a 0 rfl ha hR
def e_nmr (o : Option Int32) (a : Nat) : p_R := match o with
  | some v => (true, a + 1, v)
  | none => (false, a, 0)
set_option maxHeartbeats 400000 in
theorem x_named0 {a o : Nat} {c : Int32} (hu : f 7 = 0) : ge_Ret X ge_SH YX12_named 1 [.ref (ge_ad X.1 76), .int c] (ge_m g r (p_fw f a o true)) (some (.int (e_nmr (e_nm 0 (f 11) (f 12) (f 13) c) a).2.2)) (ge_m g r (p_fw f (e_nmr (e_nm 0 (f 11) (f 12) (f 13) c) a).2.1 o (e_nmr (e_nm 0 (f 11) (f 12) (f 13) c) a).1)) := by
  refine ge_ofA (l := [(0, .ref (ge_ad X.1 76)), (1, .int c)]) (by decide) (Nat.le_of_ble_eq_true rfl) rfl ?_
  refine ge_iload_n (pc := 0) dX12_named_0 rfl ?_
  refine ge_aload_n (pc := 1) dX12_named_1 rfl ?_
  refine gw_get (v := 0) (pc := 2) dX12_named_2 fl_X12_101_12 sh_76 rfl hu ?_
  refine ge_if_ne (pc := 5) 13 dX12_named_5 (by decide) (fun h_5 => ?_) (fun h_5 => ?_)
  · exact absurd h_5 (by decide)
  · refine ge_bipush (pc := 8) dX12_named_8 kb_98 ?_
    refine ge_goto (pc := 10) 15 dX12_named_10 (by decide) ?_
    refine ge_ic_ne (pc := 15) 22 dX12_named_15 (by decide) (fun h_15 => ?_) (fun h_15 => ?_)
    · refine ge_iconst (pc := 22) dX12_named_22 kc_0 ?_
      refine ge_istore_n (pc := 23) (l' := [(2, _), (0, _), (1, _)]) dX12_named_23 (by decide) rfl ?_
      refine ge_iload_n (pc := 24) dX12_named_24 rfl ?_
      refine ge_aload_n (pc := 25) dX12_named_25 rfl ?_
      refine gw_get (v := 0) (pc := 26) dX12_named_26 fl_X12_101_12 sh_76 rfl hu ?_
      refine ge_if_ne (pc := 29) 37 dX12_named_29 (by decide) (fun h_29 => ?_) (fun h_29 => ?_)
      · exact absurd h_29 (by decide)
      · refine ge_bipush (pc := 32) dX12_named_32 kb_104 ?_
        refine ge_goto (pc := 34) 39 dX12_named_34 (by decide) ?_
        refine ge_ic_ne (pc := 39) 46 dX12_named_39 (by decide) (fun h_39 => ?_) (fun h_39 => ?_)
        · refine ge_iconst (pc := 46) dX12_named_46 kc_0 ?_
          refine ge_istore_n (pc := 47) (l' := [(3, _), (2, _), (0, _), (1, _)]) dX12_named_47 (by decide) rfl ?_
          refine ge_iload_n (pc := 48) dX12_named_48 rfl ?_
          refine ge_aload_n (pc := 49) dX12_named_49 rfl ?_
          refine gw_get (v := 0) (pc := 50) dX12_named_50 fl_X12_101_12 sh_76 rfl hu ?_
          refine ge_if_ne (pc := 53) 61 dX12_named_53 (by decide) (fun h_53 => ?_) (fun h_53 => ?_)
          · exact absurd h_53 (by decide)
          · refine ge_bipush (pc := 56) dX12_named_56 kb_109 ?_
            refine ge_goto (pc := 58) 63 dX12_named_58 (by decide) ?_
            refine ge_ic_ne (pc := 63) 70 dX12_named_63 (by decide) (fun h_63 => ?_) (fun h_63 => ?_)
            · refine ge_iconst (pc := 70) dX12_named_70 kc_0 ?_
              refine ge_istore (pc := 71) (l' := [(4, _), (3, _), (2, _), (0, _), (1, _)]) dX12_named_71 (by decide) rfl ?_
              refine ge_iload_n (pc := 73) dX12_named_73 rfl ?_
              refine ge_if_ne (pc := 74) 91 dX12_named_74 (by decide) (fun h_74 => ?_) (fun h_74 => ?_)
              · exact absurd h_74 (by decide)
              · refine ge_iload_n (pc := 77) dX12_named_77 rfl ?_
                refine ge_if_ne (pc := 78) 91 dX12_named_78 (by decide) (fun h_78 => ?_) (fun h_78 => ?_)
                · exact absurd h_78 (by decide)
                · refine ge_iload (pc := 81) dX12_named_81 rfl ?_
                  refine ge_if_ne (pc := 83) 91 dX12_named_83 (by decide) (fun h_83 => ?_) (fun h_83 => ?_)
                  · exact absurd h_83 (by decide)
                  · refine ge_aload_n (pc := 86) dX12_named_86 rfl ?_
                    refine ge_rV0i (pc := 87) dX12_named_87 cv_X12_117 sh_76 x_fails ⟨by decide, by decide⟩ rfl rfl (Nat.le_of_ble_eq_true rfl) ?_
                    exact ge_iret (pc := 90) rfl dX12_named_90 (by simp_all [e_nm, e_nmr])
            · refine ge_iconst (pc := 66) dX12_named_66 kc_1 ?_
              refine ge_goto (pc := 67) 71 dX12_named_67 (by decide) ?_
              refine ge_istore (pc := 71) (l' := [(4, _), (3, _), (2, _), (0, _), (1, _)]) dX12_named_71 (by decide) rfl ?_
              refine ge_iload_n (pc := 73) dX12_named_73 rfl ?_
              refine ge_if_ne (pc := 74) 91 dX12_named_74 (by decide) (fun h_74 => ?_) (fun h_74 => ?_)
              · exact absurd h_74 (by decide)
              · refine ge_iload_n (pc := 77) dX12_named_77 rfl ?_
                refine ge_if_ne (pc := 78) 91 dX12_named_78 (by decide) (fun h_78 => ?_) (fun h_78 => ?_)
                · exact absurd h_78 (by decide)
                · refine ge_iload (pc := 81) dX12_named_81 rfl ?_
                  refine ge_if_ne (pc := 83) 91 dX12_named_83 (by decide) (fun h_83 => ?_) (fun h_83 => ?_)
                  · refine ge_aload_n (pc := 91) dX12_named_91 rfl ?_
                    refine ge_dup (pc := 92) dX12_named_92 rfl ?_
                    refine gw_get (v := nI _) (pc := 93) dX12_named_93 fl_X12_108_12 sh_76 rfl rfl ?_
                    refine ge_iconst (pc := 96) dX12_named_96 kc_1 ?_
                    refine ge_iadd (pc := 97) dX12_named_97 ?_
                    refine gw_at (pc := 98) dX12_named_98 fp_X12_108_12 sh_76 rfl (nI_1 _) ?_
                    refine ge_iload_n (pc := 101) dX12_named_101 rfl ?_
                    refine ge_if_eq (pc := 102) 112 dX12_named_102 (by decide) (fun h_102 => ?_) (fun h_102 => ?_)
                    · refine ge_iload_n (pc := 112) dX12_named_112 rfl ?_
                      refine ge_if_eq (pc := 113) 123 dX12_named_113 (by decide) (fun h_113 => ?_) (fun h_113 => ?_)
                      · refine ge_aload_n (pc := 123) dX12_named_123 rfl ?_
                        refine gw_get (v := f 13) (pc := 124) dX12_named_124 fl_X12_127_12 sh_76 rfl rfl ?_
                        exact ge_iret (pc := 127) rfl dX12_named_127 (by simp_all [e_nm, e_nmr])
                      · exact absurd h_113 (by decide)
                    · exact absurd h_102 (by decide)
                  · exact absurd h_83 (by decide)
        · refine ge_iconst (pc := 42) dX12_named_42 kc_1 ?_
          refine ge_goto (pc := 43) 47 dX12_named_43 (by decide) ?_
          refine ge_istore_n (pc := 47) (l' := [(3, _), (2, _), (0, _), (1, _)]) dX12_named_47 (by decide) rfl ?_
          refine ge_iload_n (pc := 48) dX12_named_48 rfl ?_
          refine ge_aload_n (pc := 49) dX12_named_49 rfl ?_
          refine gw_get (v := 0) (pc := 50) dX12_named_50 fl_X12_101_12 sh_76 rfl hu ?_
          refine ge_if_ne (pc := 53) 61 dX12_named_53 (by decide) (fun h_53 => ?_) (fun h_53 => ?_)
          · exact absurd h_53 (by decide)
          · refine ge_bipush (pc := 56) dX12_named_56 kb_109 ?_
            refine ge_goto (pc := 58) 63 dX12_named_58 (by decide) ?_
            refine ge_ic_ne (pc := 63) 70 dX12_named_63 (by decide) (fun h_63 => ?_) (fun h_63 => ?_)
            · refine ge_iconst (pc := 70) dX12_named_70 kc_0 ?_
              refine ge_istore (pc := 71) (l' := [(4, _), (3, _), (2, _), (0, _), (1, _)]) dX12_named_71 (by decide) rfl ?_
              refine ge_iload_n (pc := 73) dX12_named_73 rfl ?_
              refine ge_if_ne (pc := 74) 91 dX12_named_74 (by decide) (fun h_74 => ?_) (fun h_74 => ?_)
              · exact absurd h_74 (by decide)
              · refine ge_iload_n (pc := 77) dX12_named_77 rfl ?_
                refine ge_if_ne (pc := 78) 91 dX12_named_78 (by decide) (fun h_78 => ?_) (fun h_78 => ?_)
                · refine ge_aload_n (pc := 91) dX12_named_91 rfl ?_
                  refine ge_dup (pc := 92) dX12_named_92 rfl ?_
                  refine gw_get (v := nI _) (pc := 93) dX12_named_93 fl_X12_108_12 sh_76 rfl rfl ?_
                  refine ge_iconst (pc := 96) dX12_named_96 kc_1 ?_
                  refine ge_iadd (pc := 97) dX12_named_97 ?_
                  refine gw_at (pc := 98) dX12_named_98 fp_X12_108_12 sh_76 rfl (nI_1 _) ?_
                  refine ge_iload_n (pc := 101) dX12_named_101 rfl ?_
                  refine ge_if_eq (pc := 102) 112 dX12_named_102 (by decide) (fun h_102 => ?_) (fun h_102 => ?_)
                  · refine ge_iload_n (pc := 112) dX12_named_112 rfl ?_
                    refine ge_if_eq (pc := 113) 123 dX12_named_113 (by decide) (fun h_113 => ?_) (fun h_113 => ?_)
                    · exact absurd h_113 (by decide)
                    · refine ge_aload_n (pc := 116) dX12_named_116 rfl ?_
                      refine gw_get (v := f 12) (pc := 117) dX12_named_117 fl_X12_124_12 sh_76 rfl rfl ?_
                      refine ge_goto (pc := 120) 127 dX12_named_120 (by decide) ?_
                      exact ge_iret (pc := 127) rfl dX12_named_127 (by simp_all [e_nm, e_nmr])
                  · exact absurd h_102 (by decide)
                · exact absurd h_78 (by decide)
            · refine ge_iconst (pc := 66) dX12_named_66 kc_1 ?_
              refine ge_goto (pc := 67) 71 dX12_named_67 (by decide) ?_
              refine ge_istore (pc := 71) (l' := [(4, _), (3, _), (2, _), (0, _), (1, _)]) dX12_named_71 (by decide) rfl ?_
              refine ge_iload_n (pc := 73) dX12_named_73 rfl ?_
              refine ge_if_ne (pc := 74) 91 dX12_named_74 (by decide) (fun h_74 => ?_) (fun h_74 => ?_)
              · exact absurd h_74 (by decide)
              · refine ge_iload_n (pc := 77) dX12_named_77 rfl ?_
                refine ge_if_ne (pc := 78) 91 dX12_named_78 (by decide) (fun h_78 => ?_) (fun h_78 => ?_)
                · refine ge_aload_n (pc := 91) dX12_named_91 rfl ?_
                  refine ge_dup (pc := 92) dX12_named_92 rfl ?_
                  refine gw_get (v := nI _) (pc := 93) dX12_named_93 fl_X12_108_12 sh_76 rfl rfl ?_
                  refine ge_iconst (pc := 96) dX12_named_96 kc_1 ?_
                  refine ge_iadd (pc := 97) dX12_named_97 ?_
                  refine gw_at (pc := 98) dX12_named_98 fp_X12_108_12 sh_76 rfl (nI_1 _) ?_
                  refine ge_iload_n (pc := 101) dX12_named_101 rfl ?_
                  refine ge_if_eq (pc := 102) 112 dX12_named_102 (by decide) (fun h_102 => ?_) (fun h_102 => ?_)
                  · refine ge_iload_n (pc := 112) dX12_named_112 rfl ?_
                    refine ge_if_eq (pc := 113) 123 dX12_named_113 (by decide) (fun h_113 => ?_) (fun h_113 => ?_)
                    · exact absurd h_113 (by decide)
                    · refine ge_aload_n (pc := 116) dX12_named_116 rfl ?_
                      refine gw_get (v := f 12) (pc := 117) dX12_named_117 fl_X12_124_12 sh_76 rfl rfl ?_
                      refine ge_goto (pc := 120) 127 dX12_named_120 (by decide) ?_
                      exact ge_iret (pc := 127) rfl dX12_named_127 (by simp_all [e_nm, e_nmr])
                  · exact absurd h_102 (by decide)
                · exact absurd h_78 (by decide)
    · refine ge_iconst (pc := 18) dX12_named_18 kc_1 ?_
      refine ge_goto (pc := 19) 23 dX12_named_19 (by decide) ?_
      refine ge_istore_n (pc := 23) (l' := [(2, _), (0, _), (1, _)]) dX12_named_23 (by decide) rfl ?_
      refine ge_iload_n (pc := 24) dX12_named_24 rfl ?_
      refine ge_aload_n (pc := 25) dX12_named_25 rfl ?_
      refine gw_get (v := 0) (pc := 26) dX12_named_26 fl_X12_101_12 sh_76 rfl hu ?_
      refine ge_if_ne (pc := 29) 37 dX12_named_29 (by decide) (fun h_29 => ?_) (fun h_29 => ?_)
      · exact absurd h_29 (by decide)
      · refine ge_bipush (pc := 32) dX12_named_32 kb_104 ?_
        refine ge_goto (pc := 34) 39 dX12_named_34 (by decide) ?_
        refine ge_ic_ne (pc := 39) 46 dX12_named_39 (by decide) (fun h_39 => ?_) (fun h_39 => ?_)
        · refine ge_iconst (pc := 46) dX12_named_46 kc_0 ?_
          refine ge_istore_n (pc := 47) (l' := [(3, _), (2, _), (0, _), (1, _)]) dX12_named_47 (by decide) rfl ?_
          refine ge_iload_n (pc := 48) dX12_named_48 rfl ?_
          refine ge_aload_n (pc := 49) dX12_named_49 rfl ?_
          refine gw_get (v := 0) (pc := 50) dX12_named_50 fl_X12_101_12 sh_76 rfl hu ?_
          refine ge_if_ne (pc := 53) 61 dX12_named_53 (by decide) (fun h_53 => ?_) (fun h_53 => ?_)
          · exact absurd h_53 (by decide)
          · refine ge_bipush (pc := 56) dX12_named_56 kb_109 ?_
            refine ge_goto (pc := 58) 63 dX12_named_58 (by decide) ?_
            refine ge_ic_ne (pc := 63) 70 dX12_named_63 (by decide) (fun h_63 => ?_) (fun h_63 => ?_)
            · refine ge_iconst (pc := 70) dX12_named_70 kc_0 ?_
              refine ge_istore (pc := 71) (l' := [(4, _), (3, _), (2, _), (0, _), (1, _)]) dX12_named_71 (by decide) rfl ?_
              refine ge_iload_n (pc := 73) dX12_named_73 rfl ?_
              refine ge_if_ne (pc := 74) 91 dX12_named_74 (by decide) (fun h_74 => ?_) (fun h_74 => ?_)
              · refine ge_aload_n (pc := 91) dX12_named_91 rfl ?_
                refine ge_dup (pc := 92) dX12_named_92 rfl ?_
                refine gw_get (v := nI _) (pc := 93) dX12_named_93 fl_X12_108_12 sh_76 rfl rfl ?_
                refine ge_iconst (pc := 96) dX12_named_96 kc_1 ?_
                refine ge_iadd (pc := 97) dX12_named_97 ?_
                refine gw_at (pc := 98) dX12_named_98 fp_X12_108_12 sh_76 rfl (nI_1 _) ?_
                refine ge_iload_n (pc := 101) dX12_named_101 rfl ?_
                refine ge_if_eq (pc := 102) 112 dX12_named_102 (by decide) (fun h_102 => ?_) (fun h_102 => ?_)
                · exact absurd h_102 (by decide)
                · refine ge_aload_n (pc := 105) dX12_named_105 rfl ?_
                  refine gw_get (v := f 11) (pc := 106) dX12_named_106 fl_X12_121_12 sh_76 rfl rfl ?_
                  refine ge_goto (pc := 109) 127 dX12_named_109 (by decide) ?_
                  exact ge_iret (pc := 127) rfl dX12_named_127 (by simp_all [e_nm, e_nmr])
              · exact absurd h_74 (by decide)
            · refine ge_iconst (pc := 66) dX12_named_66 kc_1 ?_
              refine ge_goto (pc := 67) 71 dX12_named_67 (by decide) ?_
              refine ge_istore (pc := 71) (l' := [(4, _), (3, _), (2, _), (0, _), (1, _)]) dX12_named_71 (by decide) rfl ?_
              refine ge_iload_n (pc := 73) dX12_named_73 rfl ?_
              refine ge_if_ne (pc := 74) 91 dX12_named_74 (by decide) (fun h_74 => ?_) (fun h_74 => ?_)
              · refine ge_aload_n (pc := 91) dX12_named_91 rfl ?_
                refine ge_dup (pc := 92) dX12_named_92 rfl ?_
                refine gw_get (v := nI _) (pc := 93) dX12_named_93 fl_X12_108_12 sh_76 rfl rfl ?_
                refine ge_iconst (pc := 96) dX12_named_96 kc_1 ?_
                refine ge_iadd (pc := 97) dX12_named_97 ?_
                refine gw_at (pc := 98) dX12_named_98 fp_X12_108_12 sh_76 rfl (nI_1 _) ?_
                refine ge_iload_n (pc := 101) dX12_named_101 rfl ?_
                refine ge_if_eq (pc := 102) 112 dX12_named_102 (by decide) (fun h_102 => ?_) (fun h_102 => ?_)
                · exact absurd h_102 (by decide)
                · refine ge_aload_n (pc := 105) dX12_named_105 rfl ?_
                  refine gw_get (v := f 11) (pc := 106) dX12_named_106 fl_X12_121_12 sh_76 rfl rfl ?_
                  refine ge_goto (pc := 109) 127 dX12_named_109 (by decide) ?_
                  exact ge_iret (pc := 127) rfl dX12_named_127 (by simp_all [e_nm, e_nmr])
              · exact absurd h_74 (by decide)
        · refine ge_iconst (pc := 42) dX12_named_42 kc_1 ?_
          refine ge_goto (pc := 43) 47 dX12_named_43 (by decide) ?_
          refine ge_istore_n (pc := 47) (l' := [(3, _), (2, _), (0, _), (1, _)]) dX12_named_47 (by decide) rfl ?_
          refine ge_iload_n (pc := 48) dX12_named_48 rfl ?_
          refine ge_aload_n (pc := 49) dX12_named_49 rfl ?_
          refine gw_get (v := 0) (pc := 50) dX12_named_50 fl_X12_101_12 sh_76 rfl hu ?_
          refine ge_if_ne (pc := 53) 61 dX12_named_53 (by decide) (fun h_53 => ?_) (fun h_53 => ?_)
          · exact absurd h_53 (by decide)
          · refine ge_bipush (pc := 56) dX12_named_56 kb_109 ?_
            refine ge_goto (pc := 58) 63 dX12_named_58 (by decide) ?_
            refine ge_ic_ne (pc := 63) 70 dX12_named_63 (by decide) (fun h_63 => ?_) (fun h_63 => ?_)
            · refine ge_iconst (pc := 70) dX12_named_70 kc_0 ?_
              refine ge_istore (pc := 71) (l' := [(4, _), (3, _), (2, _), (0, _), (1, _)]) dX12_named_71 (by decide) rfl ?_
              refine ge_iload_n (pc := 73) dX12_named_73 rfl ?_
              refine ge_if_ne (pc := 74) 91 dX12_named_74 (by decide) (fun h_74 => ?_) (fun h_74 => ?_)
              · refine ge_aload_n (pc := 91) dX12_named_91 rfl ?_
                refine ge_dup (pc := 92) dX12_named_92 rfl ?_
                refine gw_get (v := nI _) (pc := 93) dX12_named_93 fl_X12_108_12 sh_76 rfl rfl ?_
                refine ge_iconst (pc := 96) dX12_named_96 kc_1 ?_
                refine ge_iadd (pc := 97) dX12_named_97 ?_
                refine gw_at (pc := 98) dX12_named_98 fp_X12_108_12 sh_76 rfl (nI_1 _) ?_
                refine ge_iload_n (pc := 101) dX12_named_101 rfl ?_
                refine ge_if_eq (pc := 102) 112 dX12_named_102 (by decide) (fun h_102 => ?_) (fun h_102 => ?_)
                · exact absurd h_102 (by decide)
                · refine ge_aload_n (pc := 105) dX12_named_105 rfl ?_
                  refine gw_get (v := f 11) (pc := 106) dX12_named_106 fl_X12_121_12 sh_76 rfl rfl ?_
                  refine ge_goto (pc := 109) 127 dX12_named_109 (by decide) ?_
                  exact ge_iret (pc := 127) rfl dX12_named_127 (by simp_all [e_nm, e_nmr])
              · exact absurd h_74 (by decide)
            · refine ge_iconst (pc := 66) dX12_named_66 kc_1 ?_
              refine ge_goto (pc := 67) 71 dX12_named_67 (by decide) ?_
              refine ge_istore (pc := 71) (l' := [(4, _), (3, _), (2, _), (0, _), (1, _)]) dX12_named_71 (by decide) rfl ?_
              refine ge_iload_n (pc := 73) dX12_named_73 rfl ?_
              refine ge_if_ne (pc := 74) 91 dX12_named_74 (by decide) (fun h_74 => ?_) (fun h_74 => ?_)
              · refine ge_aload_n (pc := 91) dX12_named_91 rfl ?_
                refine ge_dup (pc := 92) dX12_named_92 rfl ?_
                refine gw_get (v := nI _) (pc := 93) dX12_named_93 fl_X12_108_12 sh_76 rfl rfl ?_
                refine ge_iconst (pc := 96) dX12_named_96 kc_1 ?_
                refine ge_iadd (pc := 97) dX12_named_97 ?_
                refine gw_at (pc := 98) dX12_named_98 fp_X12_108_12 sh_76 rfl (nI_1 _) ?_
                refine ge_iload_n (pc := 101) dX12_named_101 rfl ?_
                refine ge_if_eq (pc := 102) 112 dX12_named_102 (by decide) (fun h_102 => ?_) (fun h_102 => ?_)
                · exact absurd h_102 (by decide)
                · refine ge_aload_n (pc := 105) dX12_named_105 rfl ?_
                  refine gw_get (v := f 11) (pc := 106) dX12_named_106 fl_X12_121_12 sh_76 rfl rfl ?_
                  refine ge_goto (pc := 109) 127 dX12_named_109 (by decide) ?_
                  exact ge_iret (pc := 127) rfl dX12_named_127 (by simp_all [e_nm, e_nmr])
              · exact absurd h_74 (by decide)
set_option maxHeartbeats 400000 in
theorem x_named1 {a o : Nat} {c : Int32} (hu : f 7 = 1) : ge_Ret X ge_SH YX12_named 1 [.ref (ge_ad X.1 76), .int c] (ge_m g r (p_fw f a o true)) (some (.int (e_nmr (e_nm 1 (f 11) (f 12) (f 13) c) a).2.2)) (ge_m g r (p_fw f (e_nmr (e_nm 1 (f 11) (f 12) (f 13) c) a).2.1 o (e_nmr (e_nm 1 (f 11) (f 12) (f 13) c) a).1)) := by
  refine ge_ofA (l := [(0, .ref (ge_ad X.1 76)), (1, .int c)]) (by decide) (Nat.le_of_ble_eq_true rfl) rfl ?_
  refine ge_iload_n (pc := 0) dX12_named_0 rfl ?_
  refine ge_aload_n (pc := 1) dX12_named_1 rfl ?_
  refine gw_get (v := 1) (pc := 2) dX12_named_2 fl_X12_101_12 sh_76 rfl hu ?_
  refine ge_if_ne (pc := 5) 13 dX12_named_5 (by decide) (fun h_5 => ?_) (fun h_5 => ?_)
  · refine ge_bipush (pc := 13) dX12_named_13 kb_108 ?_
    refine ge_ic_ne (pc := 15) 22 dX12_named_15 (by decide) (fun h_15 => ?_) (fun h_15 => ?_)
    · refine ge_iconst (pc := 22) dX12_named_22 kc_0 ?_
      refine ge_istore_n (pc := 23) (l' := [(2, _), (0, _), (1, _)]) dX12_named_23 (by decide) rfl ?_
      refine ge_iload_n (pc := 24) dX12_named_24 rfl ?_
      refine ge_aload_n (pc := 25) dX12_named_25 rfl ?_
      refine gw_get (v := 1) (pc := 26) dX12_named_26 fl_X12_101_12 sh_76 rfl hu ?_
      refine ge_if_ne (pc := 29) 37 dX12_named_29 (by decide) (fun h_29 => ?_) (fun h_29 => ?_)
      · refine ge_bipush (pc := 37) dX12_named_37 kb_114 ?_
        refine ge_ic_ne (pc := 39) 46 dX12_named_39 (by decide) (fun h_39 => ?_) (fun h_39 => ?_)
        · refine ge_iconst (pc := 46) dX12_named_46 kc_0 ?_
          refine ge_istore_n (pc := 47) (l' := [(3, _), (2, _), (0, _), (1, _)]) dX12_named_47 (by decide) rfl ?_
          refine ge_iload_n (pc := 48) dX12_named_48 rfl ?_
          refine ge_aload_n (pc := 49) dX12_named_49 rfl ?_
          refine gw_get (v := 1) (pc := 50) dX12_named_50 fl_X12_101_12 sh_76 rfl hu ?_
          refine ge_if_ne (pc := 53) 61 dX12_named_53 (by decide) (fun h_53 => ?_) (fun h_53 => ?_)
          · refine ge_bipush (pc := 61) dX12_named_61 kb_104 ?_
            refine ge_ic_ne (pc := 63) 70 dX12_named_63 (by decide) (fun h_63 => ?_) (fun h_63 => ?_)
            · refine ge_iconst (pc := 70) dX12_named_70 kc_0 ?_
              refine ge_istore (pc := 71) (l' := [(4, _), (3, _), (2, _), (0, _), (1, _)]) dX12_named_71 (by decide) rfl ?_
              refine ge_iload_n (pc := 73) dX12_named_73 rfl ?_
              refine ge_if_ne (pc := 74) 91 dX12_named_74 (by decide) (fun h_74 => ?_) (fun h_74 => ?_)
              · exact absurd h_74 (by decide)
              · refine ge_iload_n (pc := 77) dX12_named_77 rfl ?_
                refine ge_if_ne (pc := 78) 91 dX12_named_78 (by decide) (fun h_78 => ?_) (fun h_78 => ?_)
                · exact absurd h_78 (by decide)
                · refine ge_iload (pc := 81) dX12_named_81 rfl ?_
                  refine ge_if_ne (pc := 83) 91 dX12_named_83 (by decide) (fun h_83 => ?_) (fun h_83 => ?_)
                  · exact absurd h_83 (by decide)
                  · refine ge_aload_n (pc := 86) dX12_named_86 rfl ?_
                    refine ge_rV0i (pc := 87) dX12_named_87 cv_X12_117 sh_76 x_fails ⟨by decide, by decide⟩ rfl rfl (Nat.le_of_ble_eq_true rfl) ?_
                    exact ge_iret (pc := 90) rfl dX12_named_90 (by simp_all [e_nm, e_nmr])
            · refine ge_iconst (pc := 66) dX12_named_66 kc_1 ?_
              refine ge_goto (pc := 67) 71 dX12_named_67 (by decide) ?_
              refine ge_istore (pc := 71) (l' := [(4, _), (3, _), (2, _), (0, _), (1, _)]) dX12_named_71 (by decide) rfl ?_
              refine ge_iload_n (pc := 73) dX12_named_73 rfl ?_
              refine ge_if_ne (pc := 74) 91 dX12_named_74 (by decide) (fun h_74 => ?_) (fun h_74 => ?_)
              · exact absurd h_74 (by decide)
              · refine ge_iload_n (pc := 77) dX12_named_77 rfl ?_
                refine ge_if_ne (pc := 78) 91 dX12_named_78 (by decide) (fun h_78 => ?_) (fun h_78 => ?_)
                · exact absurd h_78 (by decide)
                · refine ge_iload (pc := 81) dX12_named_81 rfl ?_
                  refine ge_if_ne (pc := 83) 91 dX12_named_83 (by decide) (fun h_83 => ?_) (fun h_83 => ?_)
                  · refine ge_aload_n (pc := 91) dX12_named_91 rfl ?_
                    refine ge_dup (pc := 92) dX12_named_92 rfl ?_
                    refine gw_get (v := nI _) (pc := 93) dX12_named_93 fl_X12_108_12 sh_76 rfl rfl ?_
                    refine ge_iconst (pc := 96) dX12_named_96 kc_1 ?_
                    refine ge_iadd (pc := 97) dX12_named_97 ?_
                    refine gw_at (pc := 98) dX12_named_98 fp_X12_108_12 sh_76 rfl (nI_1 _) ?_
                    refine ge_iload_n (pc := 101) dX12_named_101 rfl ?_
                    refine ge_if_eq (pc := 102) 112 dX12_named_102 (by decide) (fun h_102 => ?_) (fun h_102 => ?_)
                    · refine ge_iload_n (pc := 112) dX12_named_112 rfl ?_
                      refine ge_if_eq (pc := 113) 123 dX12_named_113 (by decide) (fun h_113 => ?_) (fun h_113 => ?_)
                      · refine ge_aload_n (pc := 123) dX12_named_123 rfl ?_
                        refine gw_get (v := f 13) (pc := 124) dX12_named_124 fl_X12_127_12 sh_76 rfl rfl ?_
                        exact ge_iret (pc := 127) rfl dX12_named_127 (by simp_all [e_nm, e_nmr])
                      · exact absurd h_113 (by decide)
                    · exact absurd h_102 (by decide)
                  · exact absurd h_83 (by decide)
          · exact absurd h_53 (by decide)
        · refine ge_iconst (pc := 42) dX12_named_42 kc_1 ?_
          refine ge_goto (pc := 43) 47 dX12_named_43 (by decide) ?_
          refine ge_istore_n (pc := 47) (l' := [(3, _), (2, _), (0, _), (1, _)]) dX12_named_47 (by decide) rfl ?_
          refine ge_iload_n (pc := 48) dX12_named_48 rfl ?_
          refine ge_aload_n (pc := 49) dX12_named_49 rfl ?_
          refine gw_get (v := 1) (pc := 50) dX12_named_50 fl_X12_101_12 sh_76 rfl hu ?_
          refine ge_if_ne (pc := 53) 61 dX12_named_53 (by decide) (fun h_53 => ?_) (fun h_53 => ?_)
          · refine ge_bipush (pc := 61) dX12_named_61 kb_104 ?_
            refine ge_ic_ne (pc := 63) 70 dX12_named_63 (by decide) (fun h_63 => ?_) (fun h_63 => ?_)
            · refine ge_iconst (pc := 70) dX12_named_70 kc_0 ?_
              refine ge_istore (pc := 71) (l' := [(4, _), (3, _), (2, _), (0, _), (1, _)]) dX12_named_71 (by decide) rfl ?_
              refine ge_iload_n (pc := 73) dX12_named_73 rfl ?_
              refine ge_if_ne (pc := 74) 91 dX12_named_74 (by decide) (fun h_74 => ?_) (fun h_74 => ?_)
              · exact absurd h_74 (by decide)
              · refine ge_iload_n (pc := 77) dX12_named_77 rfl ?_
                refine ge_if_ne (pc := 78) 91 dX12_named_78 (by decide) (fun h_78 => ?_) (fun h_78 => ?_)
                · refine ge_aload_n (pc := 91) dX12_named_91 rfl ?_
                  refine ge_dup (pc := 92) dX12_named_92 rfl ?_
                  refine gw_get (v := nI _) (pc := 93) dX12_named_93 fl_X12_108_12 sh_76 rfl rfl ?_
                  refine ge_iconst (pc := 96) dX12_named_96 kc_1 ?_
                  refine ge_iadd (pc := 97) dX12_named_97 ?_
                  refine gw_at (pc := 98) dX12_named_98 fp_X12_108_12 sh_76 rfl (nI_1 _) ?_
                  refine ge_iload_n (pc := 101) dX12_named_101 rfl ?_
                  refine ge_if_eq (pc := 102) 112 dX12_named_102 (by decide) (fun h_102 => ?_) (fun h_102 => ?_)
                  · refine ge_iload_n (pc := 112) dX12_named_112 rfl ?_
                    refine ge_if_eq (pc := 113) 123 dX12_named_113 (by decide) (fun h_113 => ?_) (fun h_113 => ?_)
                    · exact absurd h_113 (by decide)
                    · refine ge_aload_n (pc := 116) dX12_named_116 rfl ?_
                      refine gw_get (v := f 12) (pc := 117) dX12_named_117 fl_X12_124_12 sh_76 rfl rfl ?_
                      refine ge_goto (pc := 120) 127 dX12_named_120 (by decide) ?_
                      exact ge_iret (pc := 127) rfl dX12_named_127 (by simp_all [e_nm, e_nmr])
                  · exact absurd h_102 (by decide)
                · exact absurd h_78 (by decide)
            · refine ge_iconst (pc := 66) dX12_named_66 kc_1 ?_
              refine ge_goto (pc := 67) 71 dX12_named_67 (by decide) ?_
              refine ge_istore (pc := 71) (l' := [(4, _), (3, _), (2, _), (0, _), (1, _)]) dX12_named_71 (by decide) rfl ?_
              refine ge_iload_n (pc := 73) dX12_named_73 rfl ?_
              refine ge_if_ne (pc := 74) 91 dX12_named_74 (by decide) (fun h_74 => ?_) (fun h_74 => ?_)
              · exact absurd h_74 (by decide)
              · refine ge_iload_n (pc := 77) dX12_named_77 rfl ?_
                refine ge_if_ne (pc := 78) 91 dX12_named_78 (by decide) (fun h_78 => ?_) (fun h_78 => ?_)
                · refine ge_aload_n (pc := 91) dX12_named_91 rfl ?_
                  refine ge_dup (pc := 92) dX12_named_92 rfl ?_
                  refine gw_get (v := nI _) (pc := 93) dX12_named_93 fl_X12_108_12 sh_76 rfl rfl ?_
                  refine ge_iconst (pc := 96) dX12_named_96 kc_1 ?_
                  refine ge_iadd (pc := 97) dX12_named_97 ?_
                  refine gw_at (pc := 98) dX12_named_98 fp_X12_108_12 sh_76 rfl (nI_1 _) ?_
                  refine ge_iload_n (pc := 101) dX12_named_101 rfl ?_
                  refine ge_if_eq (pc := 102) 112 dX12_named_102 (by decide) (fun h_102 => ?_) (fun h_102 => ?_)
                  · refine ge_iload_n (pc := 112) dX12_named_112 rfl ?_
                    refine ge_if_eq (pc := 113) 123 dX12_named_113 (by decide) (fun h_113 => ?_) (fun h_113 => ?_)
                    · exact absurd h_113 (by decide)
                    · refine ge_aload_n (pc := 116) dX12_named_116 rfl ?_
                      refine gw_get (v := f 12) (pc := 117) dX12_named_117 fl_X12_124_12 sh_76 rfl rfl ?_
                      refine ge_goto (pc := 120) 127 dX12_named_120 (by decide) ?_
                      exact ge_iret (pc := 127) rfl dX12_named_127 (by simp_all [e_nm, e_nmr])
                  · exact absurd h_102 (by decide)
                · exact absurd h_78 (by decide)
          · exact absurd h_53 (by decide)
      · exact absurd h_29 (by decide)
    · refine ge_iconst (pc := 18) dX12_named_18 kc_1 ?_
      refine ge_goto (pc := 19) 23 dX12_named_19 (by decide) ?_
      refine ge_istore_n (pc := 23) (l' := [(2, _), (0, _), (1, _)]) dX12_named_23 (by decide) rfl ?_
      refine ge_iload_n (pc := 24) dX12_named_24 rfl ?_
      refine ge_aload_n (pc := 25) dX12_named_25 rfl ?_
      refine gw_get (v := 1) (pc := 26) dX12_named_26 fl_X12_101_12 sh_76 rfl hu ?_
      refine ge_if_ne (pc := 29) 37 dX12_named_29 (by decide) (fun h_29 => ?_) (fun h_29 => ?_)
      · refine ge_bipush (pc := 37) dX12_named_37 kb_114 ?_
        refine ge_ic_ne (pc := 39) 46 dX12_named_39 (by decide) (fun h_39 => ?_) (fun h_39 => ?_)
        · refine ge_iconst (pc := 46) dX12_named_46 kc_0 ?_
          refine ge_istore_n (pc := 47) (l' := [(3, _), (2, _), (0, _), (1, _)]) dX12_named_47 (by decide) rfl ?_
          refine ge_iload_n (pc := 48) dX12_named_48 rfl ?_
          refine ge_aload_n (pc := 49) dX12_named_49 rfl ?_
          refine gw_get (v := 1) (pc := 50) dX12_named_50 fl_X12_101_12 sh_76 rfl hu ?_
          refine ge_if_ne (pc := 53) 61 dX12_named_53 (by decide) (fun h_53 => ?_) (fun h_53 => ?_)
          · refine ge_bipush (pc := 61) dX12_named_61 kb_104 ?_
            refine ge_ic_ne (pc := 63) 70 dX12_named_63 (by decide) (fun h_63 => ?_) (fun h_63 => ?_)
            · refine ge_iconst (pc := 70) dX12_named_70 kc_0 ?_
              refine ge_istore (pc := 71) (l' := [(4, _), (3, _), (2, _), (0, _), (1, _)]) dX12_named_71 (by decide) rfl ?_
              refine ge_iload_n (pc := 73) dX12_named_73 rfl ?_
              refine ge_if_ne (pc := 74) 91 dX12_named_74 (by decide) (fun h_74 => ?_) (fun h_74 => ?_)
              · refine ge_aload_n (pc := 91) dX12_named_91 rfl ?_
                refine ge_dup (pc := 92) dX12_named_92 rfl ?_
                refine gw_get (v := nI _) (pc := 93) dX12_named_93 fl_X12_108_12 sh_76 rfl rfl ?_
                refine ge_iconst (pc := 96) dX12_named_96 kc_1 ?_
                refine ge_iadd (pc := 97) dX12_named_97 ?_
                refine gw_at (pc := 98) dX12_named_98 fp_X12_108_12 sh_76 rfl (nI_1 _) ?_
                refine ge_iload_n (pc := 101) dX12_named_101 rfl ?_
                refine ge_if_eq (pc := 102) 112 dX12_named_102 (by decide) (fun h_102 => ?_) (fun h_102 => ?_)
                · exact absurd h_102 (by decide)
                · refine ge_aload_n (pc := 105) dX12_named_105 rfl ?_
                  refine gw_get (v := f 11) (pc := 106) dX12_named_106 fl_X12_121_12 sh_76 rfl rfl ?_
                  refine ge_goto (pc := 109) 127 dX12_named_109 (by decide) ?_
                  exact ge_iret (pc := 127) rfl dX12_named_127 (by simp_all [e_nm, e_nmr])
              · exact absurd h_74 (by decide)
            · refine ge_iconst (pc := 66) dX12_named_66 kc_1 ?_
              refine ge_goto (pc := 67) 71 dX12_named_67 (by decide) ?_
              refine ge_istore (pc := 71) (l' := [(4, _), (3, _), (2, _), (0, _), (1, _)]) dX12_named_71 (by decide) rfl ?_
              refine ge_iload_n (pc := 73) dX12_named_73 rfl ?_
              refine ge_if_ne (pc := 74) 91 dX12_named_74 (by decide) (fun h_74 => ?_) (fun h_74 => ?_)
              · refine ge_aload_n (pc := 91) dX12_named_91 rfl ?_
                refine ge_dup (pc := 92) dX12_named_92 rfl ?_
                refine gw_get (v := nI _) (pc := 93) dX12_named_93 fl_X12_108_12 sh_76 rfl rfl ?_
                refine ge_iconst (pc := 96) dX12_named_96 kc_1 ?_
                refine ge_iadd (pc := 97) dX12_named_97 ?_
                refine gw_at (pc := 98) dX12_named_98 fp_X12_108_12 sh_76 rfl (nI_1 _) ?_
                refine ge_iload_n (pc := 101) dX12_named_101 rfl ?_
                refine ge_if_eq (pc := 102) 112 dX12_named_102 (by decide) (fun h_102 => ?_) (fun h_102 => ?_)
                · exact absurd h_102 (by decide)
                · refine ge_aload_n (pc := 105) dX12_named_105 rfl ?_
                  refine gw_get (v := f 11) (pc := 106) dX12_named_106 fl_X12_121_12 sh_76 rfl rfl ?_
                  refine ge_goto (pc := 109) 127 dX12_named_109 (by decide) ?_
                  exact ge_iret (pc := 127) rfl dX12_named_127 (by simp_all [e_nm, e_nmr])
              · exact absurd h_74 (by decide)
          · exact absurd h_53 (by decide)
        · refine ge_iconst (pc := 42) dX12_named_42 kc_1 ?_
          refine ge_goto (pc := 43) 47 dX12_named_43 (by decide) ?_
          refine ge_istore_n (pc := 47) (l' := [(3, _), (2, _), (0, _), (1, _)]) dX12_named_47 (by decide) rfl ?_
          refine ge_iload_n (pc := 48) dX12_named_48 rfl ?_
          refine ge_aload_n (pc := 49) dX12_named_49 rfl ?_
          refine gw_get (v := 1) (pc := 50) dX12_named_50 fl_X12_101_12 sh_76 rfl hu ?_
          refine ge_if_ne (pc := 53) 61 dX12_named_53 (by decide) (fun h_53 => ?_) (fun h_53 => ?_)
          · refine ge_bipush (pc := 61) dX12_named_61 kb_104 ?_
            refine ge_ic_ne (pc := 63) 70 dX12_named_63 (by decide) (fun h_63 => ?_) (fun h_63 => ?_)
            · refine ge_iconst (pc := 70) dX12_named_70 kc_0 ?_
              refine ge_istore (pc := 71) (l' := [(4, _), (3, _), (2, _), (0, _), (1, _)]) dX12_named_71 (by decide) rfl ?_
              refine ge_iload_n (pc := 73) dX12_named_73 rfl ?_
              refine ge_if_ne (pc := 74) 91 dX12_named_74 (by decide) (fun h_74 => ?_) (fun h_74 => ?_)
              · refine ge_aload_n (pc := 91) dX12_named_91 rfl ?_
                refine ge_dup (pc := 92) dX12_named_92 rfl ?_
                refine gw_get (v := nI _) (pc := 93) dX12_named_93 fl_X12_108_12 sh_76 rfl rfl ?_
                refine ge_iconst (pc := 96) dX12_named_96 kc_1 ?_
                refine ge_iadd (pc := 97) dX12_named_97 ?_
                refine gw_at (pc := 98) dX12_named_98 fp_X12_108_12 sh_76 rfl (nI_1 _) ?_
                refine ge_iload_n (pc := 101) dX12_named_101 rfl ?_
                refine ge_if_eq (pc := 102) 112 dX12_named_102 (by decide) (fun h_102 => ?_) (fun h_102 => ?_)
                · exact absurd h_102 (by decide)
                · refine ge_aload_n (pc := 105) dX12_named_105 rfl ?_
                  refine gw_get (v := f 11) (pc := 106) dX12_named_106 fl_X12_121_12 sh_76 rfl rfl ?_
                  refine ge_goto (pc := 109) 127 dX12_named_109 (by decide) ?_
                  exact ge_iret (pc := 127) rfl dX12_named_127 (by simp_all [e_nm, e_nmr])
              · exact absurd h_74 (by decide)
            · refine ge_iconst (pc := 66) dX12_named_66 kc_1 ?_
              refine ge_goto (pc := 67) 71 dX12_named_67 (by decide) ?_
              refine ge_istore (pc := 71) (l' := [(4, _), (3, _), (2, _), (0, _), (1, _)]) dX12_named_71 (by decide) rfl ?_
              refine ge_iload_n (pc := 73) dX12_named_73 rfl ?_
              refine ge_if_ne (pc := 74) 91 dX12_named_74 (by decide) (fun h_74 => ?_) (fun h_74 => ?_)
              · refine ge_aload_n (pc := 91) dX12_named_91 rfl ?_
                refine ge_dup (pc := 92) dX12_named_92 rfl ?_
                refine gw_get (v := nI _) (pc := 93) dX12_named_93 fl_X12_108_12 sh_76 rfl rfl ?_
                refine ge_iconst (pc := 96) dX12_named_96 kc_1 ?_
                refine ge_iadd (pc := 97) dX12_named_97 ?_
                refine gw_at (pc := 98) dX12_named_98 fp_X12_108_12 sh_76 rfl (nI_1 _) ?_
                refine ge_iload_n (pc := 101) dX12_named_101 rfl ?_
                refine ge_if_eq (pc := 102) 112 dX12_named_102 (by decide) (fun h_102 => ?_) (fun h_102 => ?_)
                · exact absurd h_102 (by decide)
                · refine ge_aload_n (pc := 105) dX12_named_105 rfl ?_
                  refine gw_get (v := f 11) (pc := 106) dX12_named_106 fl_X12_121_12 sh_76 rfl rfl ?_
                  refine ge_goto (pc := 109) 127 dX12_named_109 (by decide) ?_
                  exact ge_iret (pc := 127) rfl dX12_named_127 (by simp_all [e_nm, e_nmr])
              · exact absurd h_74 (by decide)
          · exact absurd h_53 (by decide)
      · exact absurd h_29 (by decide)
  · exact absurd h_5 (by decide)
theorem x_named {a o : Nat} {c : Int32} (hu : f 7 = nI u) (hu2 : u < 2) : ge_Ret X ge_SH YX12_named 1 [.ref (ge_ad X.1 76), .int c] (ge_m g r (p_fw f a o true)) (some (.int (e_nmr (e_nm u (f 11) (f 12) (f 13) c) a).2.2)) (ge_m g r (p_fw f (e_nmr (e_nm u (f 11) (f 12) (f 13) c) a).2.1 o (e_nmr (e_nm u (f 11) (f 12) (f 13) c) a).1)) := by
  rcases (by omega : u = 0 ∨ u = 1) with rfl | rfl
  · exact x_named0 hu
  · exact x_named1 hu
end P1
