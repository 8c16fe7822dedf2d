section Y3
variable {X : ge_X} {g : ge_G} {N u : Nat}
def q_fit (N : Nat) (F : Nat → q_R) : Prop := ∀ a, a ≤ N → a ≤ (F a).2.1 ∧ (F a).2.1 ≤ N ∧ (F a).2.2.length + a ≤ (F a).2.1
theorem q_fit_of {sub : Nat → p_R} {sq : Nat → q_R} (h : ∀ a, q_is 0 0 0 a (sub a) (sq a)) (ho : e_ok N sub) : q_fit N sq := fun a ha => by
  obtain ⟨i1, i2, i3, -, -⟩ := h a
  have := ho a ha
  rw [i2] at this
  exact ⟨this.1, this.2, i3⟩
/-- a read: from a on, with the code L -/
def rd_C (X : ge_X) (g : ge_G) (N : Nat) (y : ge_Y) (d o : Nat) (F : Nat → q_R) : Prop := ∀ a L, a ≤ N → L.length ≤ a → ge_N X ge_SH y d [.ref (ge_ad X.1 55), .int (nI o)] (ge_rl g a L) (some (.int (p_b (F a).1))) (ge_rl g (F a).2.1 (L ++ (F a).2.2))
section LP
variable {b : Nat → Int32} {sq : Nat → q_R} {isop : Int32 → Bool} {F : Nat}
theorem q_lp_y {a : Nat} {L : List Int32} (h : isop (b a) = true) : q_lp b sq isop (F + 1) (true, a, L) = q_lp b sq isop F ((sq (a + 1)).1, (sq (a + 1)).2.1, L ++ ((sq (a + 1)).2.2 ++ q_op (sq (a + 1)).1 (b a))) := if_pos ⟨rfl, h⟩
theorem q_lp_n {a : Nat} {L : List Int32} (h : isop (b a) = false) : q_lp b sq isop (F + 1) (true, a, L) = (true, a, L) := if_neg (fun z => by simp only [h] at z; exact absurd z.2 (by decide))
theorem q_lp_f {a : Nat} {L : List Int32} : ∀ F, q_lp b sq isop F (false, a, L) = (false, a, L) := by
  intro F
  cases F with
  | zero => rfl
  | succ F => exact if_neg (fun z => Bool.noConfusion (show false = true from z.1))
end LP
set_option maxHeartbeats 1000000 in
theorem rd_product {o ds : Nat} {sq : Nat → q_R} (ht : ¬ g 55 1 = 0) (hu : g 55 2 = nI u) (hN : g 58 1 = nI N) (hu2 : u < 2) (hN2 : N ≤ 50) (hds : 1 ≤ ds) (hf : q_fit N (sq)) (hs : rd_C X g N YX9_readPart ds o (sq)) : rd_C X g N YX9_readProduct (ds + 1) o (q_pro (e_b (t_r g u) u N) sq) := by
  intro a L ha hL
  refine gq_ofB (l := [(0, .ref (ge_ad X.1 55)), (1, .int (nI o))]) (by decide) (Nat.le_of_ble_eq_true rfl) rfl ?_
  generalize hR : q_pro (e_b (t_r g u) u N) sq a = R
  have key : ∀ (F a2 : Nat) (L2 : List Int32), L.length + L2.length ≤ a2 → a2 ≤ N → N + 1 ≤ F + a2 → q_lp (e_b (t_r g u) u N) (sq) e_mulop F (true, a2, L2) = R → ge_B X ge_SH YX9_readProduct (ds + 1) (fun v2 g2 => v2 = some (.int (p_b R.1)) ∧ g2 = ge_rl g R.2.1 (L ++ R.2.2)) 10 [(0, .ref (ge_ad X.1 55)), (1, .int (nI o))] [] (ge_rl g a2 (L ++ L2)) := by
    intro F
    induction F with
    | zero => intro a2 L2 h1 h2 h3; omega
    | succ F ih =>
      intro a2 L2 h1 h2 h3 he
      have fx := hf (a2 + 1)
      refine gq_aload_n (pc := 10) dX9_readProduct_10 rfl ?_
      refine rd_at (pc := 11) dX9_readProduct_11 fl_X9_27_9 ?_
      refine gq_aload_n (pc := 14) dX9_readProduct_14 rfl ?_
      refine rd_tape (pc := 15) ht dX9_readProduct_15 fl_X9_20_9 ?_
      refine rd_sz (pc := 18) hN dX9_readProduct_18 fl_X9_30_7 ?_
      refine gq_ic_ge (pc := 21) 88 dX9_readProduct_21 (by decide) (fun h_21 => ?_) (fun h_21 => ?_)
      · have hop : e_mulop ((e_b (t_r g u) u N) a2) = false := by rw [t_b, if_neg (Nat.not_lt.mpr ((nI_leI (by omega) (by omega)).mp h_21))]; decide
        rw [q_lp_n hop] at he
        subst he
        refine gq_iconst (pc := 88) dX9_readProduct_88 kc_1 ?_
        exact gq_zret (pc := 89) rfl rfl dX9_readProduct_89 ⟨by first | rfl | (rw [hg]; rfl), by first | rfl | (simp only [q_op, List.append_nil, List.append_assoc]; rfl) | (simp [q_op])⟩
      · refine gq_aload_n (pc := 24) dX9_readProduct_24 rfl ?_
        refine gq_rV0i (pc := 25) dX9_readProduct_25 cv_X9_44 sh_55 (rd_next ht hu hN hu2 hN2 (by omega)) ⟨by omega, by decide⟩ rfl rfl (Nat.le_of_ble_eq_true rfl) ?_
        refine gq_bipush (pc := 28) dX9_readProduct_28 kb_42 ?_
        refine gq_ic_eq (pc := 30) 51 dX9_readProduct_30 (by decide) (fun h_30 => ?_) (fun h_30 => ?_)
        · have hop : e_mulop ((e_b (t_r g u) u N) a2) = true := by simp [e_mulop, *]
          have hl : a2 < N := e_op_lt (r := t_r g u) (u := u) (n := N) (isop := e_mulop) (by decide) a2 hop
          rw [q_lp_y hop] at he
          have fy := fx (by omega)
          refine gq_aload_n (pc := 51) dX9_readProduct_51 rfl ?_
          refine gq_rV0i (pc := 52) dX9_readProduct_52 cv_X9_44 sh_55 (rd_next ht hu hN hu2 hN2 (by omega)) ⟨by omega, by decide⟩ rfl rfl (Nat.le_of_ble_eq_true rfl) ?_
          refine gq_istore_n (pc := 55) (l' := [(2, _), (0, _), (1, _)]) dX9_readProduct_55 (by decide) rfl ?_
          refine gq_aload_n (pc := 56) dX9_readProduct_56 rfl ?_
          refine gq_dup (pc := 57) dX9_readProduct_57 rfl ?_
          refine rd_at (pc := 58) dX9_readProduct_58 fl_X9_27_9 ?_
          refine gq_iconst (pc := 61) dX9_readProduct_61 kc_1 ?_
          refine gq_iadd (pc := 62) dX9_readProduct_62 ?_
          refine rd_pat (pc := 63) (nI_1 _) dX9_readProduct_63 fp_X9_27_9 ?_
          refine gq_aload_n (pc := 66) dX9_readProduct_66 rfl ?_
          refine gq_iload_n (pc := 67) dX9_readProduct_67 rfl ?_
          refine gq_rV1i (pc := 68) dX9_readProduct_68 cv_X9_60 sh_55 (hs (a2 + 1) (L ++ L2) (by omega) (by simp only [List.length_append]; omega)) ⟨by omega, by decide⟩ rfl rfl (Nat.le_of_ble_eq_true rfl) ?_
          refine gq_if_ne (pc := 71) 76 dX9_readProduct_71 (by decide) (fun h_71 => ?_) (fun h_71 => ?_)
          · have hg : ((sq) (a2 + 1)).1 = true := p_b_n.mp h_71
            rw [hg] at he
            refine gq_aload_n (pc := 76) dX9_readProduct_76 rfl ?_
            refine gq_getr (pc := 77) dX9_readProduct_77 fl_X9_14_9 sh_55 rfl ?_
            refine gq_iload_n (pc := 80) dX9_readProduct_80 rfl ?_
            refine gq_ineg (pc := 81) dX9_readProduct_81 ?_
            refine gq_rV1v (pc := 82) dX9_readProduct_82 cv_X9_48 sh_56 (r_add_56 (by simp only [List.length_append]; omega)) ⟨by omega, by decide⟩ rfl rfl (Nat.le_of_ble_eq_true rfl) ?_
            refine gq_goto (pc := 85) 10 dX9_readProduct_85 (by decide) ?_
            refine gq_sub [1, 2] rfl ?_
            refine gq_tog (g := ge_rl g ((sq) (a2 + 1)).2.1 (L ++ (L2 ++ (((sq) (a2 + 1)).2.2 ++ q_op true ((e_b (t_r g u) u N) a2))))) (by simp only [q_op, if_true, List.append_assoc]) ?_
            exact ih _ _ (by simp only [List.length_append, q_op, if_true, List.length_cons, List.length_nil]; omega) fy.2.1 (by omega) he
          · have hg : ((sq) (a2 + 1)).1 = false := p_b_0.mp (by first | exact h_71 | exact Decidable.not_not.mp h_71)
            rw [hg, q_lp_f] at he
            subst he
            refine gq_iconst (pc := 74) dX9_readProduct_74 kc_0 ?_
            exact gq_zret (pc := 75) rfl rfl dX9_readProduct_75 ⟨by first | rfl | (rw [hg]; rfl), by first | rfl | (simp only [q_op, List.append_nil, List.append_assoc]; rfl) | (simp [q_op])⟩
        · refine gq_aload_n (pc := 33) dX9_readProduct_33 rfl ?_
          refine gq_rV0i (pc := 34) dX9_readProduct_34 cv_X9_44 sh_55 (rd_next ht hu hN hu2 hN2 (by omega)) ⟨by omega, by decide⟩ rfl rfl (Nat.le_of_ble_eq_true rfl) ?_
          refine gq_bipush (pc := 37) dX9_readProduct_37 kb_47 ?_
          refine gq_ic_eq (pc := 39) 51 dX9_readProduct_39 (by decide) (fun h_39 => ?_) (fun h_39 => ?_)
          · have hop : e_mulop ((e_b (t_r g u) u N) a2) = true := by simp [e_mulop, *]
            have hl : a2 < N := e_op_lt (r := t_r g u) (u := u) (n := N) (isop := e_mulop) (by decide) a2 hop
            rw [q_lp_y hop] at he
            have fy := fx (by omega)
            refine gq_aload_n (pc := 51) dX9_readProduct_51 rfl ?_
            refine gq_rV0i (pc := 52) dX9_readProduct_52 cv_X9_44 sh_55 (rd_next ht hu hN hu2 hN2 (by omega)) ⟨by omega, by decide⟩ rfl rfl (Nat.le_of_ble_eq_true rfl) ?_
            refine gq_istore_n (pc := 55) (l' := [(2, _), (0, _), (1, _)]) dX9_readProduct_55 (by decide) rfl ?_
            refine gq_aload_n (pc := 56) dX9_readProduct_56 rfl ?_
            refine gq_dup (pc := 57) dX9_readProduct_57 rfl ?_
            refine rd_at (pc := 58) dX9_readProduct_58 fl_X9_27_9 ?_
            refine gq_iconst (pc := 61) dX9_readProduct_61 kc_1 ?_
            refine gq_iadd (pc := 62) dX9_readProduct_62 ?_
            refine rd_pat (pc := 63) (nI_1 _) dX9_readProduct_63 fp_X9_27_9 ?_
            refine gq_aload_n (pc := 66) dX9_readProduct_66 rfl ?_
            refine gq_iload_n (pc := 67) dX9_readProduct_67 rfl ?_
            refine gq_rV1i (pc := 68) dX9_readProduct_68 cv_X9_60 sh_55 (hs (a2 + 1) (L ++ L2) (by omega) (by simp only [List.length_append]; omega)) ⟨by omega, by decide⟩ rfl rfl (Nat.le_of_ble_eq_true rfl) ?_
            refine gq_if_ne (pc := 71) 76 dX9_readProduct_71 (by decide) (fun h_71 => ?_) (fun h_71 => ?_)
            · have hg : ((sq) (a2 + 1)).1 = true := p_b_n.mp h_71
              rw [hg] at he
              refine gq_aload_n (pc := 76) dX9_readProduct_76 rfl ?_
              refine gq_getr (pc := 77) dX9_readProduct_77 fl_X9_14_9 sh_55 rfl ?_
              refine gq_iload_n (pc := 80) dX9_readProduct_80 rfl ?_
              refine gq_ineg (pc := 81) dX9_readProduct_81 ?_
              refine gq_rV1v (pc := 82) dX9_readProduct_82 cv_X9_48 sh_56 (r_add_56 (by simp only [List.length_append]; omega)) ⟨by omega, by decide⟩ rfl rfl (Nat.le_of_ble_eq_true rfl) ?_
              refine gq_goto (pc := 85) 10 dX9_readProduct_85 (by decide) ?_
              refine gq_sub [1, 2] rfl ?_
              refine gq_tog (g := ge_rl g ((sq) (a2 + 1)).2.1 (L ++ (L2 ++ (((sq) (a2 + 1)).2.2 ++ q_op true ((e_b (t_r g u) u N) a2))))) (by simp only [q_op, if_true, List.append_assoc]) ?_
              exact ih _ _ (by simp only [List.length_append, q_op, if_true, List.length_cons, List.length_nil]; omega) fy.2.1 (by omega) he
            · have hg : ((sq) (a2 + 1)).1 = false := p_b_0.mp (by first | exact h_71 | exact Decidable.not_not.mp h_71)
              rw [hg, q_lp_f] at he
              subst he
              refine gq_iconst (pc := 74) dX9_readProduct_74 kc_0 ?_
              exact gq_zret (pc := 75) rfl rfl dX9_readProduct_75 ⟨by first | rfl | (rw [hg]; rfl), by first | rfl | (simp only [q_op, List.append_nil, List.append_assoc]; rfl) | (simp [q_op])⟩
          · refine gq_aload_n (pc := 42) dX9_readProduct_42 rfl ?_
            refine gq_rV0i (pc := 43) dX9_readProduct_43 cv_X9_44 sh_55 (rd_next ht hu hN hu2 hN2 (by omega)) ⟨by omega, by decide⟩ rfl rfl (Nat.le_of_ble_eq_true rfl) ?_
            refine gq_bipush (pc := 46) dX9_readProduct_46 kb_37 ?_
            refine gq_ic_ne (pc := 48) 88 dX9_readProduct_48 (by decide) (fun h_48 => ?_) (fun h_48 => ?_)
            · have hop : e_mulop ((e_b (t_r g u) u N) a2) = false := by simp [e_mulop, *]
              rw [q_lp_n hop] at he
              subst he
              refine gq_iconst (pc := 88) dX9_readProduct_88 kc_1 ?_
              exact gq_zret (pc := 89) rfl rfl dX9_readProduct_89 ⟨by first | rfl | (rw [hg]; rfl), by first | rfl | (simp only [q_op, List.append_nil, List.append_assoc]; rfl) | (simp [q_op])⟩
            · have hop : e_mulop ((e_b (t_r g u) u N) a2) = true := by simp [e_mulop, *]
              have hl : a2 < N := e_op_lt (r := t_r g u) (u := u) (n := N) (isop := e_mulop) (by decide) a2 hop
              rw [q_lp_y hop] at he
              have fy := fx (by omega)
              refine gq_aload_n (pc := 51) dX9_readProduct_51 rfl ?_
              refine gq_rV0i (pc := 52) dX9_readProduct_52 cv_X9_44 sh_55 (rd_next ht hu hN hu2 hN2 (by omega)) ⟨by omega, by decide⟩ rfl rfl (Nat.le_of_ble_eq_true rfl) ?_
              refine gq_istore_n (pc := 55) (l' := [(2, _), (0, _), (1, _)]) dX9_readProduct_55 (by decide) rfl ?_
              refine gq_aload_n (pc := 56) dX9_readProduct_56 rfl ?_
              refine gq_dup (pc := 57) dX9_readProduct_57 rfl ?_
              refine rd_at (pc := 58) dX9_readProduct_58 fl_X9_27_9 ?_
              refine gq_iconst (pc := 61) dX9_readProduct_61 kc_1 ?_
              refine gq_iadd (pc := 62) dX9_readProduct_62 ?_
              refine rd_pat (pc := 63) (nI_1 _) dX9_readProduct_63 fp_X9_27_9 ?_
              refine gq_aload_n (pc := 66) dX9_readProduct_66 rfl ?_
              refine gq_iload_n (pc := 67) dX9_readProduct_67 rfl ?_
              refine gq_rV1i (pc := 68) dX9_readProduct_68 cv_X9_60 sh_55 (hs (a2 + 1) (L ++ L2) (by omega) (by simp only [List.length_append]; omega)) ⟨by omega, by decide⟩ rfl rfl (Nat.le_of_ble_eq_true rfl) ?_
              refine gq_if_ne (pc := 71) 76 dX9_readProduct_71 (by decide) (fun h_71 => ?_) (fun h_71 => ?_)
              · have hg : ((sq) (a2 + 1)).1 = true := p_b_n.mp h_71
                rw [hg] at he
                refine gq_aload_n (pc := 76) dX9_readProduct_76 rfl ?_
                refine gq_getr (pc := 77) dX9_readProduct_77 fl_X9_14_9 sh_55 rfl ?_
                refine gq_iload_n (pc := 80) dX9_readProduct_80 rfl ?_
                refine gq_ineg (pc := 81) dX9_readProduct_81 ?_
                refine gq_rV1v (pc := 82) dX9_readProduct_82 cv_X9_48 sh_56 (r_add_56 (by simp only [List.length_append]; omega)) ⟨by omega, by decide⟩ rfl rfl (Nat.le_of_ble_eq_true rfl) ?_
                refine gq_goto (pc := 85) 10 dX9_readProduct_85 (by decide) ?_
                refine gq_sub [1, 2] rfl ?_
                refine gq_tog (g := ge_rl g ((sq) (a2 + 1)).2.1 (L ++ (L2 ++ (((sq) (a2 + 1)).2.2 ++ q_op true ((e_b (t_r g u) u N) a2))))) (by simp only [q_op, if_true, List.append_assoc]) ?_
                exact ih _ _ (by simp only [List.length_append, q_op, if_true, List.length_cons, List.length_nil]; omega) fy.2.1 (by omega) he
              · have hg : ((sq) (a2 + 1)).1 = false := p_b_0.mp (by first | exact h_71 | exact Decidable.not_not.mp h_71)
                rw [hg, q_lp_f] at he
                subst he
                refine gq_iconst (pc := 74) dX9_readProduct_74 kc_0 ?_
                exact gq_zret (pc := 75) rfl rfl dX9_readProduct_75 ⟨by first | rfl | (rw [hg]; rfl), by first | rfl | (simp only [q_op, List.append_nil, List.append_assoc]; rfl) | (simp [q_op])⟩
  refine gq_aload_n (pc := 0) dX9_readProduct_0 rfl ?_
  refine gq_iload_n (pc := 1) dX9_readProduct_1 rfl ?_
  refine gq_rV1i (pc := 2) dX9_readProduct_2 cv_X9_60 sh_55 (hs a L ha hL) ⟨by omega, by decide⟩ rfl rfl (Nat.le_of_ble_eq_true rfl) ?_
  refine gq_if_ne (pc := 5) 10 dX9_readProduct_5 (by decide) (fun h_5 => ?_) (fun h_5 => ?_)
  · have hg : ((sq) a).1 = true := p_b_n.mp h_5
    have fa := hf a ha
    have he : q_lp (e_b (t_r g u) u N) (sq) e_mulop 51 (true, ((sq) a).2.1, ((sq) a).2.2) = R := by rw [← hR]; unfold q_pro; rw [← hg]
    refine gq_sub [0, 1] rfl ?_
    exact key 51 _ _ (by omega) fa.2.1 (by omega) he
  · have hg : ((sq) a).1 = false := p_b_0.mp (by first | exact h_5 | exact Decidable.not_not.mp h_5)
    obtain ⟨s1, s2, s3, es⟩ : ∃ s1 s2 s3, (sq) a = (s1, s2, s3) := ⟨_, _, _, rfl⟩
    have hR2 : R = (sq) a := by rw [← hR]; unfold q_pro; rw [es] at hg ⊢; obtain rfl : s1 = false := hg; exact q_lp_f 51
    refine gq_iconst (pc := 8) dX9_readProduct_8 kc_0 ?_
    exact gq_zret (pc := 9) rfl rfl dX9_readProduct_9 ⟨by rw [hR2, hg]; rfl, by rw [hR2]⟩
set_option maxHeartbeats 1000000 in
theorem rd_sum {o ds : Nat} {sq : Nat → q_R} (ht : ¬ g 55 1 = 0) (hu : g 55 2 = nI u) (hN : g 58 1 = nI N) (hu2 : u < 2) (hN2 : N ≤ 50) (hds : 1 ≤ ds) (hf : q_fit N (q_pro (e_b (t_r g u) u N) sq)) (hs : rd_C X g N YX9_readProduct ds o (q_pro (e_b (t_r g u) u N) sq)) : rd_C X g N YX9_readSum (ds + 1) o (q_sum (e_b (t_r g u) u N) sq) := by
  intro a L ha hL
  refine gq_ofB (l := [(0, .ref (ge_ad X.1 55)), (1, .int (nI o))]) (by decide) (Nat.le_of_ble_eq_true rfl) rfl ?_
  generalize hR : q_sum (e_b (t_r g u) u N) sq a = R
  have key : ∀ (F a2 : Nat) (L2 : List Int32), L.length + L2.length ≤ a2 → a2 ≤ N → N + 1 ≤ F + a2 → q_lp (e_b (t_r g u) u N) (q_pro (e_b (t_r g u) u N) sq) e_addop F (true, a2, L2) = R → ge_B X ge_SH YX9_readSum (ds + 1) (fun v2 g2 => v2 = some (.int (p_b R.1)) ∧ g2 = ge_rl g R.2.1 (L ++ R.2.2)) 10 [(0, .ref (ge_ad X.1 55)), (1, .int (nI o))] [] (ge_rl g a2 (L ++ L2)) := by
    intro F
    induction F with
    | zero => intro a2 L2 h1 h2 h3; omega
    | succ F ih =>
      intro a2 L2 h1 h2 h3 he
      have fx := hf (a2 + 1)
      refine gq_aload_n (pc := 10) dX9_readSum_10 rfl ?_
      refine rd_at (pc := 11) dX9_readSum_11 fl_X9_27_9 ?_
      refine gq_aload_n (pc := 14) dX9_readSum_14 rfl ?_
      refine rd_tape (pc := 15) ht dX9_readSum_15 fl_X9_20_9 ?_
      refine rd_sz (pc := 18) hN dX9_readSum_18 fl_X9_30_7 ?_
      refine gq_ic_ge (pc := 21) 79 dX9_readSum_21 (by decide) (fun h_21 => ?_) (fun h_21 => ?_)
      · have hop : e_addop ((e_b (t_r g u) u N) a2) = false := by rw [t_b, if_neg (Nat.not_lt.mpr ((nI_leI (by omega) (by omega)).mp h_21))]; decide
        rw [q_lp_n hop] at he
        subst he
        refine gq_iconst (pc := 79) dX9_readSum_79 kc_1 ?_
        exact gq_zret (pc := 80) rfl rfl dX9_readSum_80 ⟨by first | rfl | (rw [hg]; rfl), by first | rfl | (simp only [q_op, List.append_nil, List.append_assoc]; rfl) | (simp [q_op])⟩
      · refine gq_aload_n (pc := 24) dX9_readSum_24 rfl ?_
        refine gq_rV0i (pc := 25) dX9_readSum_25 cv_X9_44 sh_55 (rd_next ht hu hN hu2 hN2 (by omega)) ⟨by omega, by decide⟩ rfl rfl (Nat.le_of_ble_eq_true rfl) ?_
        refine gq_bipush (pc := 28) dX9_readSum_28 kb_43 ?_
        refine gq_ic_eq (pc := 30) 42 dX9_readSum_30 (by decide) (fun h_30 => ?_) (fun h_30 => ?_)
        · have hop : e_addop ((e_b (t_r g u) u N) a2) = true := by simp [e_addop, *]
          have hl : a2 < N := e_op_lt (r := t_r g u) (u := u) (n := N) (isop := e_addop) (by decide) a2 hop
          rw [q_lp_y hop] at he
          have fy := fx (by omega)
          refine gq_aload_n (pc := 42) dX9_readSum_42 rfl ?_
          refine gq_rV0i (pc := 43) dX9_readSum_43 cv_X9_44 sh_55 (rd_next ht hu hN hu2 hN2 (by omega)) ⟨by omega, by decide⟩ rfl rfl (Nat.le_of_ble_eq_true rfl) ?_
          refine gq_istore_n (pc := 46) (l' := [(2, _), (0, _), (1, _)]) dX9_readSum_46 (by decide) rfl ?_
          refine gq_aload_n (pc := 47) dX9_readSum_47 rfl ?_
          refine gq_dup (pc := 48) dX9_readSum_48 rfl ?_
          refine rd_at (pc := 49) dX9_readSum_49 fl_X9_27_9 ?_
          refine gq_iconst (pc := 52) dX9_readSum_52 kc_1 ?_
          refine gq_iadd (pc := 53) dX9_readSum_53 ?_
          refine rd_pat (pc := 54) (nI_1 _) dX9_readSum_54 fp_X9_27_9 ?_
          refine gq_aload_n (pc := 57) dX9_readSum_57 rfl ?_
          refine gq_iload_n (pc := 58) dX9_readSum_58 rfl ?_
          refine gq_rV1i (pc := 59) dX9_readSum_59 cv_X9_57 sh_55 (hs (a2 + 1) (L ++ L2) (by omega) (by simp only [List.length_append]; omega)) ⟨by omega, by decide⟩ rfl rfl (Nat.le_of_ble_eq_true rfl) ?_
          refine gq_if_ne (pc := 62) 67 dX9_readSum_62 (by decide) (fun h_62 => ?_) (fun h_62 => ?_)
          · have hg : ((q_pro (e_b (t_r g u) u N) sq) (a2 + 1)).1 = true := p_b_n.mp h_62
            rw [hg] at he
            refine gq_aload_n (pc := 67) dX9_readSum_67 rfl ?_
            refine gq_getr (pc := 68) dX9_readSum_68 fl_X9_14_9 sh_55 rfl ?_
            refine gq_iload_n (pc := 71) dX9_readSum_71 rfl ?_
            refine gq_ineg (pc := 72) dX9_readSum_72 ?_
            refine gq_rV1v (pc := 73) dX9_readSum_73 cv_X9_48 sh_56 (r_add_56 (by simp only [List.length_append]; omega)) ⟨by omega, by decide⟩ rfl rfl (Nat.le_of_ble_eq_true rfl) ?_
            refine gq_goto (pc := 76) 10 dX9_readSum_76 (by decide) ?_
            refine gq_sub [1, 2] rfl ?_
            refine gq_tog (g := ge_rl g ((q_pro (e_b (t_r g u) u N) sq) (a2 + 1)).2.1 (L ++ (L2 ++ (((q_pro (e_b (t_r g u) u N) sq) (a2 + 1)).2.2 ++ q_op true ((e_b (t_r g u) u N) a2))))) (by simp only [q_op, if_true, List.append_assoc]) ?_
            exact ih _ _ (by simp only [List.length_append, q_op, if_true, List.length_cons, List.length_nil]; omega) fy.2.1 (by omega) he
          · have hg : ((q_pro (e_b (t_r g u) u N) sq) (a2 + 1)).1 = false := p_b_0.mp (by first | exact h_62 | exact Decidable.not_not.mp h_62)
            rw [hg, q_lp_f] at he
            subst he
            refine gq_iconst (pc := 65) dX9_readSum_65 kc_0 ?_
            exact gq_zret (pc := 66) rfl rfl dX9_readSum_66 ⟨by first | rfl | (rw [hg]; rfl), by first | rfl | (simp only [q_op, List.append_nil, List.append_assoc]; rfl) | (simp [q_op])⟩
        · refine gq_aload_n (pc := 33) dX9_readSum_33 rfl ?_
          refine gq_rV0i (pc := 34) dX9_readSum_34 cv_X9_44 sh_55 (rd_next ht hu hN hu2 hN2 (by omega)) ⟨by omega, by decide⟩ rfl rfl (Nat.le_of_ble_eq_true rfl) ?_
          refine gq_bipush (pc := 37) dX9_readSum_37 kb_45 ?_
          refine gq_ic_ne (pc := 39) 79 dX9_readSum_39 (by decide) (fun h_39 => ?_) (fun h_39 => ?_)
          · have hop : e_addop ((e_b (t_r g u) u N) a2) = false := by simp [e_addop, *]
            rw [q_lp_n hop] at he
            subst he
            refine gq_iconst (pc := 79) dX9_readSum_79 kc_1 ?_
            exact gq_zret (pc := 80) rfl rfl dX9_readSum_80 ⟨by first | rfl | (rw [hg]; rfl), by first | rfl | (simp only [q_op, List.append_nil, List.append_assoc]; rfl) | (simp [q_op])⟩
          · have hop : e_addop ((e_b (t_r g u) u N) a2) = true := by simp [e_addop, *]
            have hl : a2 < N := e_op_lt (r := t_r g u) (u := u) (n := N) (isop := e_addop) (by decide) a2 hop
            rw [q_lp_y hop] at he
            have fy := fx (by omega)
            refine gq_aload_n (pc := 42) dX9_readSum_42 rfl ?_
            refine gq_rV0i (pc := 43) dX9_readSum_43 cv_X9_44 sh_55 (rd_next ht hu hN hu2 hN2 (by omega)) ⟨by omega, by decide⟩ rfl rfl (Nat.le_of_ble_eq_true rfl) ?_
            refine gq_istore_n (pc := 46) (l' := [(2, _), (0, _), (1, _)]) dX9_readSum_46 (by decide) rfl ?_
            refine gq_aload_n (pc := 47) dX9_readSum_47 rfl ?_
            refine gq_dup (pc := 48) dX9_readSum_48 rfl ?_
            refine rd_at (pc := 49) dX9_readSum_49 fl_X9_27_9 ?_
            refine gq_iconst (pc := 52) dX9_readSum_52 kc_1 ?_
            refine gq_iadd (pc := 53) dX9_readSum_53 ?_
            refine rd_pat (pc := 54) (nI_1 _) dX9_readSum_54 fp_X9_27_9 ?_
            refine gq_aload_n (pc := 57) dX9_readSum_57 rfl ?_
            refine gq_iload_n (pc := 58) dX9_readSum_58 rfl ?_
            refine gq_rV1i (pc := 59) dX9_readSum_59 cv_X9_57 sh_55 (hs (a2 + 1) (L ++ L2) (by omega) (by simp only [List.length_append]; omega)) ⟨by omega, by decide⟩ rfl rfl (Nat.le_of_ble_eq_true rfl) ?_
            refine gq_if_ne (pc := 62) 67 dX9_readSum_62 (by decide) (fun h_62 => ?_) (fun h_62 => ?_)
            · have hg : ((q_pro (e_b (t_r g u) u N) sq) (a2 + 1)).1 = true := p_b_n.mp h_62
              rw [hg] at he
              refine gq_aload_n (pc := 67) dX9_readSum_67 rfl ?_
              refine gq_getr (pc := 68) dX9_readSum_68 fl_X9_14_9 sh_55 rfl ?_
              refine gq_iload_n (pc := 71) dX9_readSum_71 rfl ?_
              refine gq_ineg (pc := 72) dX9_readSum_72 ?_
              refine gq_rV1v (pc := 73) dX9_readSum_73 cv_X9_48 sh_56 (r_add_56 (by simp only [List.length_append]; omega)) ⟨by omega, by decide⟩ rfl rfl (Nat.le_of_ble_eq_true rfl) ?_
              refine gq_goto (pc := 76) 10 dX9_readSum_76 (by decide) ?_
              refine gq_sub [1, 2] rfl ?_
              refine gq_tog (g := ge_rl g ((q_pro (e_b (t_r g u) u N) sq) (a2 + 1)).2.1 (L ++ (L2 ++ (((q_pro (e_b (t_r g u) u N) sq) (a2 + 1)).2.2 ++ q_op true ((e_b (t_r g u) u N) a2))))) (by simp only [q_op, if_true, List.append_assoc]) ?_
              exact ih _ _ (by simp only [List.length_append, q_op, if_true, List.length_cons, List.length_nil]; omega) fy.2.1 (by omega) he
            · have hg : ((q_pro (e_b (t_r g u) u N) sq) (a2 + 1)).1 = false := p_b_0.mp (by first | exact h_62 | exact Decidable.not_not.mp h_62)
              rw [hg, q_lp_f] at he
              subst he
              refine gq_iconst (pc := 65) dX9_readSum_65 kc_0 ?_
              exact gq_zret (pc := 66) rfl rfl dX9_readSum_66 ⟨by first | rfl | (rw [hg]; rfl), by first | rfl | (simp only [q_op, List.append_nil, List.append_assoc]; rfl) | (simp [q_op])⟩
  refine gq_aload_n (pc := 0) dX9_readSum_0 rfl ?_
  refine gq_iload_n (pc := 1) dX9_readSum_1 rfl ?_
  refine gq_rV1i (pc := 2) dX9_readSum_2 cv_X9_57 sh_55 (hs a L ha hL) ⟨by omega, by decide⟩ rfl rfl (Nat.le_of_ble_eq_true rfl) ?_
  refine gq_if_ne (pc := 5) 10 dX9_readSum_5 (by decide) (fun h_5 => ?_) (fun h_5 => ?_)
  · have hg : ((q_pro (e_b (t_r g u) u N) sq) a).1 = true := p_b_n.mp h_5
    have fa := hf a ha
    have he : q_lp (e_b (t_r g u) u N) (q_pro (e_b (t_r g u) u N) sq) e_addop 51 (true, ((q_pro (e_b (t_r g u) u N) sq) a).2.1, ((q_pro (e_b (t_r g u) u N) sq) a).2.2) = R := by rw [← hR]; unfold q_sum; rw [← hg]
    refine gq_sub [0, 1] rfl ?_
    exact key 51 _ _ (by omega) fa.2.1 (by omega) he
  · have hg : ((q_pro (e_b (t_r g u) u N) sq) a).1 = false := p_b_0.mp (by first | exact h_5 | exact Decidable.not_not.mp h_5)
    obtain ⟨s1, s2, s3, es⟩ : ∃ s1 s2 s3, (q_pro (e_b (t_r g u) u N) sq) a = (s1, s2, s3) := ⟨_, _, _, rfl⟩
    have hR2 : R = (q_pro (e_b (t_r g u) u N) sq) a := by rw [← hR]; unfold q_sum; rw [es] at hg ⊢; obtain rfl : s1 = false := hg; exact q_lp_f 51
    refine gq_iconst (pc := 8) dX9_readSum_8 kc_0 ?_
    exact gq_zret (pc := 9) rfl rfl dX9_readSum_9 ⟨by rw [hR2, hg]; rfl, by rw [hR2]⟩
set_option maxHeartbeats 1000000 in
theorem rd_all {o ds : Nat} {sq : Nat → q_R} (ht : ¬ g 55 1 = 0) (hu : g 55 2 = nI u) (hN : g 58 1 = nI N) (hu2 : u < 2) (hN2 : N ≤ 50) (hds : 1 ≤ ds) (hf : q_fit N (q_cmp (e_b (t_r g u) u N) sq)) (hs : rd_C X g N YX9_readComparison ds o (q_cmp (e_b (t_r g u) u N) sq)) : rd_C X g N YX9_readAll (ds + 1) o (q_and (e_b (t_r g u) u N) sq) := by
  intro a L ha hL
  refine gq_ofB (l := [(0, .ref (ge_ad X.1 55)), (1, .int (nI o))]) (by decide) (Nat.le_of_ble_eq_true rfl) rfl ?_
  generalize hR : q_and (e_b (t_r g u) u N) sq a = R
  have key : ∀ (F a2 : Nat) (L2 : List Int32), L.length + L2.length ≤ a2 → a2 ≤ N → N + 1 ≤ F + a2 → q_lp (e_b (t_r g u) u N) (q_cmp (e_b (t_r g u) u N) sq) e_andop F (true, a2, L2) = R → ge_B X ge_SH YX9_readAll (ds + 1) (fun v2 g2 => v2 = some (.int (p_b R.1)) ∧ g2 = ge_rl g R.2.1 (L ++ R.2.2)) 10 [(0, .ref (ge_ad X.1 55)), (1, .int (nI o))] [] (ge_rl g a2 (L ++ L2)) := by
    intro F
    induction F with
    | zero => intro a2 L2 h1 h2 h3; omega
    | succ F ih =>
      intro a2 L2 h1 h2 h3 he
      have fx := hf (a2 + 1)
      refine gq_aload_n (pc := 10) dX9_readAll_10 rfl ?_
      refine rd_at (pc := 11) dX9_readAll_11 fl_X9_27_9 ?_
      refine gq_aload_n (pc := 14) dX9_readAll_14 rfl ?_
      refine rd_tape (pc := 15) ht dX9_readAll_15 fl_X9_20_9 ?_
      refine rd_sz (pc := 18) hN dX9_readAll_18 fl_X9_30_7 ?_
      refine gq_ic_ge (pc := 21) 65 dX9_readAll_21 (by decide) (fun h_21 => ?_) (fun h_21 => ?_)
      · have hop : e_andop ((e_b (t_r g u) u N) a2) = false := by rw [t_b, if_neg (Nat.not_lt.mpr ((nI_leI (by omega) (by omega)).mp h_21))]; decide
        rw [q_lp_n hop] at he
        subst he
        refine gq_iconst (pc := 65) dX9_readAll_65 kc_1 ?_
        exact gq_zret (pc := 66) rfl rfl dX9_readAll_66 ⟨by first | rfl | (rw [hg]; rfl), by first | rfl | (simp only [q_op, List.append_nil, List.append_assoc]; rfl) | (simp [q_op])⟩
      · refine gq_aload_n (pc := 24) dX9_readAll_24 rfl ?_
        refine gq_rV0i (pc := 25) dX9_readAll_25 cv_X9_44 sh_55 (rd_next ht hu hN hu2 hN2 (by omega)) ⟨by omega, by decide⟩ rfl rfl (Nat.le_of_ble_eq_true rfl) ?_
        refine gq_bipush (pc := 28) dX9_readAll_28 kb_38 ?_
        refine gq_ic_ne (pc := 30) 65 dX9_readAll_30 (by decide) (fun h_30 => ?_) (fun h_30 => ?_)
        · have hop : e_andop ((e_b (t_r g u) u N) a2) = false := by simp [e_andop, *]
          rw [q_lp_n hop] at he
          subst he
          refine gq_iconst (pc := 65) dX9_readAll_65 kc_1 ?_
          exact gq_zret (pc := 66) rfl rfl dX9_readAll_66 ⟨by first | rfl | (rw [hg]; rfl), by first | rfl | (simp only [q_op, List.append_nil, List.append_assoc]; rfl) | (simp [q_op])⟩
        · have hop : e_andop ((e_b (t_r g u) u N) a2) = true := by simp [e_andop, *]
          have hl : a2 < N := e_op_lt (r := t_r g u) (u := u) (n := N) (isop := e_andop) (by decide) a2 hop
          rw [q_lp_y hop] at he
          have fy := fx (by omega)
          refine gq_aload_n (pc := 33) dX9_readAll_33 rfl ?_
          refine gq_dup (pc := 34) dX9_readAll_34 rfl ?_
          refine rd_at (pc := 35) dX9_readAll_35 fl_X9_27_9 ?_
          refine gq_iconst (pc := 38) dX9_readAll_38 kc_1 ?_
          refine gq_iadd (pc := 39) dX9_readAll_39 ?_
          refine rd_pat (pc := 40) (nI_1 _) dX9_readAll_40 fp_X9_27_9 ?_
          refine gq_aload_n (pc := 43) dX9_readAll_43 rfl ?_
          refine gq_iload_n (pc := 44) dX9_readAll_44 rfl ?_
          refine gq_rV1i (pc := 45) dX9_readAll_45 cv_X9_51 sh_55 (hs (a2 + 1) (L ++ L2) (by omega) (by simp only [List.length_append]; omega)) ⟨by omega, by decide⟩ rfl rfl (Nat.le_of_ble_eq_true rfl) ?_
          refine gq_if_ne (pc := 48) 53 dX9_readAll_48 (by decide) (fun h_48 => ?_) (fun h_48 => ?_)
          · have hg : ((q_cmp (e_b (t_r g u) u N) sq) (a2 + 1)).1 = true := p_b_n.mp h_48
            rw [hg] at he
            refine gq_aload_n (pc := 53) dX9_readAll_53 rfl ?_
            refine gq_getr (pc := 54) dX9_readAll_54 fl_X9_14_9 sh_55 rfl ?_
            refine gq_bipush (pc := 57) dX9_readAll_57 kb_m38 ?_
            refine gq_rV1v (pc := 59) dX9_readAll_59 cv_X9_48 sh_56 (r_add_56 (by simp only [List.length_append]; omega)) ⟨by omega, by decide⟩ rfl rfl (Nat.le_of_ble_eq_true rfl) ?_
            refine gq_goto (pc := 62) 10 dX9_readAll_62 (by decide) ?_
            refine gq_sub [0, 1] rfl ?_
            have hc : (e_b (t_r g u) u N) a2 = 38 := by first | exact h_30 | exact Decidable.not_not.mp h_30
            refine gq_tog (g := ge_rl g ((q_cmp (e_b (t_r g u) u N) sq) (a2 + 1)).2.1 (L ++ (L2 ++ (((q_cmp (e_b (t_r g u) u N) sq) (a2 + 1)).2.2 ++ q_op true ((e_b (t_r g u) u N) a2))))) (by rw [hc]; simp only [q_op, if_true, List.append_assoc]; first | done | rfl) ?_
            exact ih _ _ (by simp only [List.length_append, q_op, if_true, List.length_cons, List.length_nil]; omega) fy.2.1 (by omega) he
          · have hg : ((q_cmp (e_b (t_r g u) u N) sq) (a2 + 1)).1 = false := p_b_0.mp (by first | exact h_48 | exact Decidable.not_not.mp h_48)
            rw [hg, q_lp_f] at he
            subst he
            refine gq_iconst (pc := 51) dX9_readAll_51 kc_0 ?_
            exact gq_zret (pc := 52) rfl rfl dX9_readAll_52 ⟨by first | rfl | (rw [hg]; rfl), by first | rfl | (simp only [q_op, List.append_nil, List.append_assoc]; rfl) | (simp [q_op])⟩
  refine gq_aload_n (pc := 0) dX9_readAll_0 rfl ?_
  refine gq_iload_n (pc := 1) dX9_readAll_1 rfl ?_
  refine gq_rV1i (pc := 2) dX9_readAll_2 cv_X9_51 sh_55 (hs a L ha hL) ⟨by omega, by decide⟩ rfl rfl (Nat.le_of_ble_eq_true rfl) ?_
  refine gq_if_ne (pc := 5) 10 dX9_readAll_5 (by decide) (fun h_5 => ?_) (fun h_5 => ?_)
  · have hg : ((q_cmp (e_b (t_r g u) u N) sq) a).1 = true := p_b_n.mp h_5
    have fa := hf a ha
    have he : q_lp (e_b (t_r g u) u N) (q_cmp (e_b (t_r g u) u N) sq) e_andop 51 (true, ((q_cmp (e_b (t_r g u) u N) sq) a).2.1, ((q_cmp (e_b (t_r g u) u N) sq) a).2.2) = R := by rw [← hR]; unfold q_and; rw [← hg]
    refine gq_sub [0, 1] rfl ?_
    exact key 51 _ _ (by omega) fa.2.1 (by omega) he
  · have hg : ((q_cmp (e_b (t_r g u) u N) sq) a).1 = false := p_b_0.mp (by first | exact h_5 | exact Decidable.not_not.mp h_5)
    obtain ⟨s1, s2, s3, es⟩ : ∃ s1 s2 s3, (q_cmp (e_b (t_r g u) u N) sq) a = (s1, s2, s3) := ⟨_, _, _, rfl⟩
    have hR2 : R = (q_cmp (e_b (t_r g u) u N) sq) a := by rw [← hR]; unfold q_and; rw [es] at hg ⊢; obtain rfl : s1 = false := hg; exact q_lp_f 51
    refine gq_iconst (pc := 8) dX9_readAll_8 kc_0 ?_
    exact gq_zret (pc := 9) rfl rfl dX9_readAll_9 ⟨by rw [hR2, hg]; rfl, by rw [hR2]⟩
set_option maxHeartbeats 1000000 in
theorem rd_text {o ds : Nat} {sq : Nat → q_R} (ht : ¬ g 55 1 = 0) (hu : g 55 2 = nI u) (hN : g 58 1 = nI N) (hu2 : u < 2) (hN2 : N ≤ 50) (hds : 1 ≤ ds) (hf : q_fit N (q_and (e_b (t_r g u) u N) sq)) (hs : rd_C X g N YX9_readAll ds o (q_and (e_b (t_r g u) u N) sq)) : rd_C X g N YX9_readText (ds + 1) o (q_who (e_b (t_r g u) u N) sq) := by
  intro a L ha hL
  refine gq_ofB (l := [(0, .ref (ge_ad X.1 55)), (1, .int (nI o))]) (by decide) (Nat.le_of_ble_eq_true rfl) rfl ?_
  generalize hR : q_who (e_b (t_r g u) u N) sq a = R
  have key : ∀ (F a2 : Nat) (L2 : List Int32), L.length + L2.length ≤ a2 → a2 ≤ N → N + 1 ≤ F + a2 → q_lp (e_b (t_r g u) u N) (q_and (e_b (t_r g u) u N) sq) e_orop F (true, a2, L2) = R → ge_B X ge_SH YX9_readText (ds + 1) (fun v2 g2 => v2 = some (.int (p_b R.1)) ∧ g2 = ge_rl g R.2.1 (L ++ R.2.2)) 10 [(0, .ref (ge_ad X.1 55)), (1, .int (nI o))] [] (ge_rl g a2 (L ++ L2)) := by
    intro F
    induction F with
    | zero => intro a2 L2 h1 h2 h3; omega
    | succ F ih =>
      intro a2 L2 h1 h2 h3 he
      have fx := hf (a2 + 1)
      refine gq_aload_n (pc := 10) dX9_readText_10 rfl ?_
      refine rd_at (pc := 11) dX9_readText_11 fl_X9_27_9 ?_
      refine gq_aload_n (pc := 14) dX9_readText_14 rfl ?_
      refine rd_tape (pc := 15) ht dX9_readText_15 fl_X9_20_9 ?_
      refine rd_sz (pc := 18) hN dX9_readText_18 fl_X9_30_7 ?_
      refine gq_ic_ge (pc := 21) 65 dX9_readText_21 (by decide) (fun h_21 => ?_) (fun h_21 => ?_)
      · have hop : e_orop ((e_b (t_r g u) u N) a2) = false := by rw [t_b, if_neg (Nat.not_lt.mpr ((nI_leI (by omega) (by omega)).mp h_21))]; decide
        rw [q_lp_n hop] at he
        subst he
        refine gq_iconst (pc := 65) dX9_readText_65 kc_1 ?_
        exact gq_zret (pc := 66) rfl rfl dX9_readText_66 ⟨by first | rfl | (rw [hg]; rfl), by first | rfl | (simp only [q_op, List.append_nil, List.append_assoc]; rfl) | (simp [q_op])⟩
      · refine gq_aload_n (pc := 24) dX9_readText_24 rfl ?_
        refine gq_rV0i (pc := 25) dX9_readText_25 cv_X9_44 sh_55 (rd_next ht hu hN hu2 hN2 (by omega)) ⟨by omega, by decide⟩ rfl rfl (Nat.le_of_ble_eq_true rfl) ?_
        refine gq_bipush (pc := 28) dX9_readText_28 kb_124 ?_
        refine gq_ic_ne (pc := 30) 65 dX9_readText_30 (by decide) (fun h_30 => ?_) (fun h_30 => ?_)
        · have hop : e_orop ((e_b (t_r g u) u N) a2) = false := by simp [e_orop, *]
          rw [q_lp_n hop] at he
          subst he
          refine gq_iconst (pc := 65) dX9_readText_65 kc_1 ?_
          exact gq_zret (pc := 66) rfl rfl dX9_readText_66 ⟨by first | rfl | (rw [hg]; rfl), by first | rfl | (simp only [q_op, List.append_nil, List.append_assoc]; rfl) | (simp [q_op])⟩
        · have hop : e_orop ((e_b (t_r g u) u N) a2) = true := by simp [e_orop, *]
          have hl : a2 < N := e_op_lt (r := t_r g u) (u := u) (n := N) (isop := e_orop) (by decide) a2 hop
          rw [q_lp_y hop] at he
          have fy := fx (by omega)
          refine gq_aload_n (pc := 33) dX9_readText_33 rfl ?_
          refine gq_dup (pc := 34) dX9_readText_34 rfl ?_
          refine rd_at (pc := 35) dX9_readText_35 fl_X9_27_9 ?_
          refine gq_iconst (pc := 38) dX9_readText_38 kc_1 ?_
          refine gq_iadd (pc := 39) dX9_readText_39 ?_
          refine rd_pat (pc := 40) (nI_1 _) dX9_readText_40 fp_X9_27_9 ?_
          refine gq_aload_n (pc := 43) dX9_readText_43 rfl ?_
          refine gq_iload_n (pc := 44) dX9_readText_44 rfl ?_
          refine gq_rV1i (pc := 45) dX9_readText_45 cv_X9_41 sh_55 (hs (a2 + 1) (L ++ L2) (by omega) (by simp only [List.length_append]; omega)) ⟨by omega, by decide⟩ rfl rfl (Nat.le_of_ble_eq_true rfl) ?_
          refine gq_if_ne (pc := 48) 53 dX9_readText_48 (by decide) (fun h_48 => ?_) (fun h_48 => ?_)
          · have hg : ((q_and (e_b (t_r g u) u N) sq) (a2 + 1)).1 = true := p_b_n.mp h_48
            rw [hg] at he
            refine gq_aload_n (pc := 53) dX9_readText_53 rfl ?_
            refine gq_getr (pc := 54) dX9_readText_54 fl_X9_14_9 sh_55 rfl ?_
            refine gq_bipush (pc := 57) dX9_readText_57 kb_m124 ?_
            refine gq_rV1v (pc := 59) dX9_readText_59 cv_X9_48 sh_56 (r_add_56 (by simp only [List.length_append]; omega)) ⟨by omega, by decide⟩ rfl rfl (Nat.le_of_ble_eq_true rfl) ?_
            refine gq_goto (pc := 62) 10 dX9_readText_62 (by decide) ?_
            refine gq_sub [0, 1] rfl ?_
            have hc : (e_b (t_r g u) u N) a2 = 124 := by first | exact h_30 | exact Decidable.not_not.mp h_30
            refine gq_tog (g := ge_rl g ((q_and (e_b (t_r g u) u N) sq) (a2 + 1)).2.1 (L ++ (L2 ++ (((q_and (e_b (t_r g u) u N) sq) (a2 + 1)).2.2 ++ q_op true ((e_b (t_r g u) u N) a2))))) (by rw [hc]; simp only [q_op, if_true, List.append_assoc]; first | done | rfl) ?_
            exact ih _ _ (by simp only [List.length_append, q_op, if_true, List.length_cons, List.length_nil]; omega) fy.2.1 (by omega) he
          · have hg : ((q_and (e_b (t_r g u) u N) sq) (a2 + 1)).1 = false := p_b_0.mp (by first | exact h_48 | exact Decidable.not_not.mp h_48)
            rw [hg, q_lp_f] at he
            subst he
            refine gq_iconst (pc := 51) dX9_readText_51 kc_0 ?_
            exact gq_zret (pc := 52) rfl rfl dX9_readText_52 ⟨by first | rfl | (rw [hg]; rfl), by first | rfl | (simp only [q_op, List.append_nil, List.append_assoc]; rfl) | (simp [q_op])⟩
  refine gq_aload_n (pc := 0) dX9_readText_0 rfl ?_
  refine gq_iload_n (pc := 1) dX9_readText_1 rfl ?_
  refine gq_rV1i (pc := 2) dX9_readText_2 cv_X9_41 sh_55 (hs a L ha hL) ⟨by omega, by decide⟩ rfl rfl (Nat.le_of_ble_eq_true rfl) ?_
  refine gq_if_ne (pc := 5) 10 dX9_readText_5 (by decide) (fun h_5 => ?_) (fun h_5 => ?_)
  · have hg : ((q_and (e_b (t_r g u) u N) sq) a).1 = true := p_b_n.mp h_5
    have fa := hf a ha
    have he : q_lp (e_b (t_r g u) u N) (q_and (e_b (t_r g u) u N) sq) e_orop 51 (true, ((q_and (e_b (t_r g u) u N) sq) a).2.1, ((q_and (e_b (t_r g u) u N) sq) a).2.2) = R := by rw [← hR]; unfold q_who; rw [← hg]
    refine gq_sub [0, 1] rfl ?_
    exact key 51 _ _ (by omega) fa.2.1 (by omega) he
  · have hg : ((q_and (e_b (t_r g u) u N) sq) a).1 = false := p_b_0.mp (by first | exact h_5 | exact Decidable.not_not.mp h_5)
    obtain ⟨s1, s2, s3, es⟩ : ∃ s1 s2 s3, (q_and (e_b (t_r g u) u N) sq) a = (s1, s2, s3) := ⟨_, _, _, rfl⟩
    have hR2 : R = (q_and (e_b (t_r g u) u N) sq) a := by rw [← hR]; unfold q_who; rw [es] at hg ⊢; obtain rfl : s1 = false := hg; exact q_lp_f 51
    refine gq_iconst (pc := 8) dX9_readText_8 kc_0 ?_
    exact gq_zret (pc := 9) rfl rfl dX9_readText_9 ⟨by rw [hR2, hg]; rfl, by rw [hR2]⟩
section CM
variable {b : Nat → Int32} {sq : Nat → q_R}
theorem q_cmp2_f {a : Nat} {L : List Int32} : q_cmp2 b sq (false, a, L) = (false, a, L) := if_neg (fun z => Bool.noConfusion (show false = true from z.1))
theorem q_cmp2_n {a : Nat} {L : List Int32} (h : ¬ (b a = 60 ∨ b a = 61 ∨ b a = 62)) : q_cmp2 b sq (true, a, L) = (true, a, L) := if_neg (fun z => h z.2)
theorem q_cmp2_y {a : Nat} {L : List Int32} (h : b a = 60 ∨ b a = 61 ∨ b a = 62) : q_cmp2 b sq (true, a, L) = ((sq (a + 1)).1, (sq (a + 1)).2.1, L ++ ((sq (a + 1)).2.2 ++ q_op (sq (a + 1)).1 (b a))) := if_pos ⟨rfl, h⟩
end CM
set_option maxHeartbeats 1000000 in
theorem rd_cmp {o ds : Nat} {sq : Nat → q_R} (ht : ¬ g 55 1 = 0) (hu : g 55 2 = nI u) (hN : g 58 1 = nI N) (hu2 : u < 2) (hN2 : N ≤ 50) (hds : 1 ≤ ds) (hf : q_fit N (q_sum (e_b (t_r g u) u N) sq)) (hs : rd_C X g N YX9_readSum ds o (q_sum (e_b (t_r g u) u N) sq)) : rd_C X g N YX9_readComparison (ds + 1) o (q_cmp (e_b (t_r g u) u N) sq) := by
  intro a L ha hL
  have h0 := hs a L ha hL
  have fa := hf a ha
  unfold q_cmp
  generalize q_sum (e_b (t_r g u) u N) sq a = s at h0 fa
  obtain ⟨q, a2, L2⟩ := s
  simp only at h0 fa
  refine gq_ofB (l := [(0, .ref (ge_ad X.1 55)), (1, .int (nI o))]) (by decide) (Nat.le_of_ble_eq_true rfl) rfl ?_
  refine gq_aload_n (pc := 0) dX9_readComparison_0 rfl ?_
  refine gq_iload_n (pc := 1) dX9_readComparison_1 rfl ?_
  refine gq_rV1i (pc := 2) dX9_readComparison_2 cv_X9_54 sh_55 h0 ⟨by omega, by decide⟩ rfl rfl (Nat.le_of_ble_eq_true rfl) ?_
  refine gq_if_ne (pc := 5) 10 dX9_readComparison_5 (by decide) (fun h_5 => ?_) (fun h_5 => ?_)
  · obtain rfl : q = true := p_b_n.mp h_5
    refine gq_aload_n (pc := 10) dX9_readComparison_10 rfl ?_
    refine gq_rV0i (pc := 11) dX9_readComparison_11 cv_X9_44 sh_55 (rd_next ht hu hN hu2 hN2 (by omega)) ⟨by omega, by decide⟩ rfl rfl (Nat.le_of_ble_eq_true rfl) ?_
    refine gq_istore_n (pc := 14) (l' := [(2, _), (0, _), (1, _)]) dX9_readComparison_14 (by decide) rfl ?_
    refine gq_iload_n (pc := 15) dX9_readComparison_15 rfl ?_
    refine gq_bipush (pc := 16) dX9_readComparison_16 kb_60 ?_
    refine gq_ic_eq (pc := 18) 35 dX9_readComparison_18 (by decide) (fun h_18 => ?_) (fun h_18 => ?_)
    · have hc : (e_b (t_r g u) u N) a2 = 60 ∨ (e_b (t_r g u) u N) a2 = 61 ∨ (e_b (t_r g u) u N) a2 = 62 := by simp [h_18]
      have hl : a2 < N := e_op_lt (r := t_r g u) (u := u) (n := N) (isop := q_cmpop) (by decide) a2 (q_cmpop_y.mpr hc)
      rw [q_cmp2_y hc]
      have fy := hf (a2 + 1) (by omega)
      refine gq_aload_n (pc := 35) dX9_readComparison_35 rfl ?_
      refine gq_dup (pc := 36) dX9_readComparison_36 rfl ?_
      refine rd_at (pc := 37) dX9_readComparison_37 fl_X9_27_9 ?_
      refine gq_iconst (pc := 40) dX9_readComparison_40 kc_1 ?_
      refine gq_iadd (pc := 41) dX9_readComparison_41 ?_
      refine rd_pat (pc := 42) (nI_1 _) dX9_readComparison_42 fp_X9_27_9 ?_
      refine gq_aload_n (pc := 45) dX9_readComparison_45 rfl ?_
      refine gq_iload_n (pc := 46) dX9_readComparison_46 rfl ?_
      refine gq_rV1i (pc := 47) dX9_readComparison_47 cv_X9_54 sh_55 (hs (a2 + 1) (L ++ L2) (by omega) (by simp only [List.length_append]; omega)) ⟨by omega, by decide⟩ rfl rfl (Nat.le_of_ble_eq_true rfl) ?_
      refine gq_if_ne (pc := 50) 55 dX9_readComparison_50 (by decide) (fun h_50 => ?_) (fun h_50 => ?_)
      · have hg : (q_sum (e_b (t_r g u) u N) sq (a2 + 1)).1 = true := p_b_n.mp h_50
        rw [hg]
        refine gq_aload_n (pc := 55) dX9_readComparison_55 rfl ?_
        refine gq_getr (pc := 56) dX9_readComparison_56 fl_X9_14_9 sh_55 rfl ?_
        refine gq_iload_n (pc := 59) dX9_readComparison_59 rfl ?_
        refine gq_ineg (pc := 60) dX9_readComparison_60 ?_
        refine gq_rV1v (pc := 61) dX9_readComparison_61 cv_X9_48 sh_56 (r_add_56 (by simp only [List.length_append]; omega)) ⟨by omega, by decide⟩ rfl rfl (Nat.le_of_ble_eq_true rfl) ?_
        refine gq_iconst (pc := 64) dX9_readComparison_64 kc_1 ?_
        exact gq_zret (pc := 65) rfl rfl dX9_readComparison_65 ⟨rfl, by first | rfl | (simp only [q_op, if_true, List.append_nil, List.append_assoc]; done) | (simp [q_op])⟩
      · have hg : (q_sum (e_b (t_r g u) u N) sq (a2 + 1)).1 = false := p_b_0.mp (by first | exact h_50 | exact Decidable.not_not.mp h_50)
        rw [hg]
        refine gq_iconst (pc := 53) dX9_readComparison_53 kc_0 ?_
        exact gq_zret (pc := 54) rfl rfl dX9_readComparison_54 ⟨rfl, by first | rfl | (simp only [q_op, if_true, List.append_nil, List.append_assoc]; done) | (simp [q_op])⟩
    · refine gq_iload_n (pc := 21) dX9_readComparison_21 rfl ?_
      refine gq_bipush (pc := 22) dX9_readComparison_22 kb_61 ?_
      refine gq_ic_eq (pc := 24) 35 dX9_readComparison_24 (by decide) (fun h_24 => ?_) (fun h_24 => ?_)
      · have hc : (e_b (t_r g u) u N) a2 = 60 ∨ (e_b (t_r g u) u N) a2 = 61 ∨ (e_b (t_r g u) u N) a2 = 62 := by simp [h_24]
        have hl : a2 < N := e_op_lt (r := t_r g u) (u := u) (n := N) (isop := q_cmpop) (by decide) a2 (q_cmpop_y.mpr hc)
        rw [q_cmp2_y hc]
        have fy := hf (a2 + 1) (by omega)
        refine gq_aload_n (pc := 35) dX9_readComparison_35 rfl ?_
        refine gq_dup (pc := 36) dX9_readComparison_36 rfl ?_
        refine rd_at (pc := 37) dX9_readComparison_37 fl_X9_27_9 ?_
        refine gq_iconst (pc := 40) dX9_readComparison_40 kc_1 ?_
        refine gq_iadd (pc := 41) dX9_readComparison_41 ?_
        refine rd_pat (pc := 42) (nI_1 _) dX9_readComparison_42 fp_X9_27_9 ?_
        refine gq_aload_n (pc := 45) dX9_readComparison_45 rfl ?_
        refine gq_iload_n (pc := 46) dX9_readComparison_46 rfl ?_
        refine gq_rV1i (pc := 47) dX9_readComparison_47 cv_X9_54 sh_55 (hs (a2 + 1) (L ++ L2) (by omega) (by simp only [List.length_append]; omega)) ⟨by omega, by decide⟩ rfl rfl (Nat.le_of_ble_eq_true rfl) ?_
        refine gq_if_ne (pc := 50) 55 dX9_readComparison_50 (by decide) (fun h_50 => ?_) (fun h_50 => ?_)
        · have hg : (q_sum (e_b (t_r g u) u N) sq (a2 + 1)).1 = true := p_b_n.mp h_50
          rw [hg]
          refine gq_aload_n (pc := 55) dX9_readComparison_55 rfl ?_
          refine gq_getr (pc := 56) dX9_readComparison_56 fl_X9_14_9 sh_55 rfl ?_
          refine gq_iload_n (pc := 59) dX9_readComparison_59 rfl ?_
          refine gq_ineg (pc := 60) dX9_readComparison_60 ?_
          refine gq_rV1v (pc := 61) dX9_readComparison_61 cv_X9_48 sh_56 (r_add_56 (by simp only [List.length_append]; omega)) ⟨by omega, by decide⟩ rfl rfl (Nat.le_of_ble_eq_true rfl) ?_
          refine gq_iconst (pc := 64) dX9_readComparison_64 kc_1 ?_
          exact gq_zret (pc := 65) rfl rfl dX9_readComparison_65 ⟨rfl, by first | rfl | (simp only [q_op, if_true, List.append_nil, List.append_assoc]; done) | (simp [q_op])⟩
        · have hg : (q_sum (e_b (t_r g u) u N) sq (a2 + 1)).1 = false := p_b_0.mp (by first | exact h_50 | exact Decidable.not_not.mp h_50)
          rw [hg]
          refine gq_iconst (pc := 53) dX9_readComparison_53 kc_0 ?_
          exact gq_zret (pc := 54) rfl rfl dX9_readComparison_54 ⟨rfl, by first | rfl | (simp only [q_op, if_true, List.append_nil, List.append_assoc]; done) | (simp [q_op])⟩
      · refine gq_iload_n (pc := 27) dX9_readComparison_27 rfl ?_
        refine gq_bipush (pc := 28) dX9_readComparison_28 kb_62 ?_
        refine gq_ic_eq (pc := 30) 35 dX9_readComparison_30 (by decide) (fun h_30 => ?_) (fun h_30 => ?_)
        · have hc : (e_b (t_r g u) u N) a2 = 60 ∨ (e_b (t_r g u) u N) a2 = 61 ∨ (e_b (t_r g u) u N) a2 = 62 := by simp [h_30]
          have hl : a2 < N := e_op_lt (r := t_r g u) (u := u) (n := N) (isop := q_cmpop) (by decide) a2 (q_cmpop_y.mpr hc)
          rw [q_cmp2_y hc]
          have fy := hf (a2 + 1) (by omega)
          refine gq_aload_n (pc := 35) dX9_readComparison_35 rfl ?_
          refine gq_dup (pc := 36) dX9_readComparison_36 rfl ?_
          refine rd_at (pc := 37) dX9_readComparison_37 fl_X9_27_9 ?_
          refine gq_iconst (pc := 40) dX9_readComparison_40 kc_1 ?_
          refine gq_iadd (pc := 41) dX9_readComparison_41 ?_
          refine rd_pat (pc := 42) (nI_1 _) dX9_readComparison_42 fp_X9_27_9 ?_
          refine gq_aload_n (pc := 45) dX9_readComparison_45 rfl ?_
          refine gq_iload_n (pc := 46) dX9_readComparison_46 rfl ?_
          refine gq_rV1i (pc := 47) dX9_readComparison_47 cv_X9_54 sh_55 (hs (a2 + 1) (L ++ L2) (by omega) (by simp only [List.length_append]; omega)) ⟨by omega, by decide⟩ rfl rfl (Nat.le_of_ble_eq_true rfl) ?_
          refine gq_if_ne (pc := 50) 55 dX9_readComparison_50 (by decide) (fun h_50 => ?_) (fun h_50 => ?_)
          · have hg : (q_sum (e_b (t_r g u) u N) sq (a2 + 1)).1 = true := p_b_n.mp h_50
            rw [hg]
            refine gq_aload_n (pc := 55) dX9_readComparison_55 rfl ?_
            refine gq_getr (pc := 56) dX9_readComparison_56 fl_X9_14_9 sh_55 rfl ?_
            refine gq_iload_n (pc := 59) dX9_readComparison_59 rfl ?_
            refine gq_ineg (pc := 60) dX9_readComparison_60 ?_
            refine gq_rV1v (pc := 61) dX9_readComparison_61 cv_X9_48 sh_56 (r_add_56 (by simp only [List.length_append]; omega)) ⟨by omega, by decide⟩ rfl rfl (Nat.le_of_ble_eq_true rfl) ?_
            refine gq_iconst (pc := 64) dX9_readComparison_64 kc_1 ?_
            exact gq_zret (pc := 65) rfl rfl dX9_readComparison_65 ⟨rfl, by first | rfl | (simp only [q_op, if_true, List.append_nil, List.append_assoc]; done) | (simp [q_op])⟩
          · have hg : (q_sum (e_b (t_r g u) u N) sq (a2 + 1)).1 = false := p_b_0.mp (by first | exact h_50 | exact Decidable.not_not.mp h_50)
            rw [hg]
            refine gq_iconst (pc := 53) dX9_readComparison_53 kc_0 ?_
            exact gq_zret (pc := 54) rfl rfl dX9_readComparison_54 ⟨rfl, by first | rfl | (simp only [q_op, if_true, List.append_nil, List.append_assoc]; done) | (simp [q_op])⟩
        · rw [q_cmp2_n (fun z => by rcases z with z | z | z <;> contradiction)]
          refine gq_iconst (pc := 33) dX9_readComparison_33 kc_1 ?_
          exact gq_zret (pc := 34) rfl rfl dX9_readComparison_34 ⟨rfl, by first | rfl | (simp only [q_op, if_true, List.append_nil, List.append_assoc]; done) | (simp [q_op])⟩
  · obtain rfl : q = false := p_b_0.mp (by first | exact h_5 | exact Decidable.not_not.mp h_5)
    rw [q_cmp2_f]
    refine gq_iconst (pc := 8) dX9_readComparison_8 kc_0 ?_
    exact gq_zret (pc := 9) rfl rfl dX9_readComparison_9 ⟨rfl, by first | rfl | (simp only [q_op, if_true, List.append_nil, List.append_assoc]; done) | (simp [q_op])⟩
set_option maxHeartbeats 1000000 in
theorem rd_num {a : Nat} {L : List Int32} (ht : ¬ g 55 1 = 0) (hu : g 55 2 = nI u) (hN : g 58 1 = nI N) (hu2 : u < 2) (hN2 : N ≤ 50) (ha : a ≤ N) (hL : L.length < 50) : ge_N X ge_SH YX9_readNumber 1 [.ref (ge_ad X.1 55)] (ge_rl g a L) none (ge_rl g (e_num (e_b (t_r g u) u N) 4 a 0).1 (L ++ [(e_num (e_b (t_r g u) u N) 4 a 0).2])) := by
  refine gq_ofB (l := [(0, .ref (ge_ad X.1 55))]) (by decide) (Nat.le_of_ble_eq_true rfl) rfl ?_
  generalize hR : e_num (e_b (t_r g u) u N) 4 a 0 = R
  have key : ∀ (F c a : Nat) (v : Int32), c + F = 4 → a ≤ N → e_num (e_b (t_r g u) u N) F a v = R → ge_B X ge_SH YX9_readNumber 1 (fun v2 g2 => v2 = none ∧ g2 = ge_rl g R.1 (L ++ [R.2])) 4 [(2, .int (nI c)), (1, .int v), (0, .ref (ge_ad X.1 55))] [] (ge_rl g a L) := by
    intro F
    induction F with
    | zero =>
      intro c a v hc ha he
      obtain rfl : c = 4 := by omega
      subst he
      refine gq_iload_n (pc := 4) dX9_readNumber_4 rfl ?_
      refine gq_iconst (pc := 5) dX9_readNumber_5 kc_4 ?_
      refine gq_ic_ge (pc := 6) 48 dX9_readNumber_6 (by decide) (fun h_6 => ?_) (fun h_6 => ?_)
      · refine gq_aload_n (pc := 48) dX9_readNumber_48 rfl ?_
        refine gq_getr (pc := 49) dX9_readNumber_49 fl_X9_14_9 sh_55 rfl ?_
        refine gq_iload_n (pc := 52) dX9_readNumber_52 rfl ?_
        refine gq_rV1v (pc := 53) dX9_readNumber_53 cv_X9_48 sh_56 (r_add_56 hL) ⟨by decide, by decide⟩ rfl rfl (Nat.le_of_ble_eq_true rfl) ?_
        exact gq_vret (pc := 56) rfl dX9_readNumber_56 ⟨rfl, rfl⟩
      · exact absurd (Int32.le_refl _) h_6
    | succ F ih =>
      intro c a v hc ha he
      have hne : ¬ (4 : Int32) ≤ nI c := fun z => by have := (nI_leI (a := 4) (by omega) (by omega)).mp z; omega
      refine gq_iload_n (pc := 4) dX9_readNumber_4 rfl ?_
      refine gq_iconst (pc := 5) dX9_readNumber_5 kc_4 ?_
      refine gq_ic_ge (pc := 6) 48 dX9_readNumber_6 (by decide) (fun h_6 => ?_) (fun h_6 => ?_)
      · exact absurd h_6 hne
      · refine gq_aload_n (pc := 9) dX9_readNumber_9 rfl ?_
        refine gq_rV0i (pc := 10) dX9_readNumber_10 cv_X9_44 sh_55 (rd_next ht hu hN hu2 hN2 (by omega)) ⟨by decide, by decide⟩ rfl rfl (Nat.le_of_ble_eq_true rfl) ?_
        refine gq_rS1i (pc := 13) dX9_readNumber_13 cs_X9_63 (rd_digit _) ⟨by decide, by decide⟩ (Nat.le_of_ble_eq_true rfl) ?_
        refine gq_if_eq (pc := 16) 48 dX9_readNumber_16 (by decide) (fun h_16 => ?_) (fun h_16 => ?_)
        · rw [e_num_n _ _ _ _ h_16] at he
          subst he
          refine gq_aload_n (pc := 48) dX9_readNumber_48 rfl ?_
          refine gq_getr (pc := 49) dX9_readNumber_49 fl_X9_14_9 sh_55 rfl ?_
          refine gq_iload_n (pc := 52) dX9_readNumber_52 rfl ?_
          refine gq_rV1v (pc := 53) dX9_readNumber_53 cv_X9_48 sh_56 (r_add_56 hL) ⟨by decide, by decide⟩ rfl rfl (Nat.le_of_ble_eq_true rfl) ?_
          exact gq_vret (pc := 56) rfl dX9_readNumber_56 ⟨rfl, rfl⟩
        · rw [e_num_y _ _ _ _ h_16] at he
          have hl : a < N := e_b_lt (r := t_r g u) (u := u) (fun z => h_16 (by rw [z]; decide))
          refine gq_bipush (pc := 19) dX9_readNumber_19 kb_10 ?_
          refine gq_iload_n (pc := 21) dX9_readNumber_21 rfl ?_
          refine gq_imul (pc := 22) dX9_readNumber_22 ?_
          refine gq_aload_n (pc := 23) dX9_readNumber_23 rfl ?_
          refine gq_rV0i (pc := 24) dX9_readNumber_24 cv_X9_44 sh_55 (rd_next ht hu hN hu2 hN2 (by omega)) ⟨by decide, by decide⟩ rfl rfl (Nat.le_of_ble_eq_true rfl) ?_
          refine gq_iadd (pc := 27) dX9_readNumber_27 ?_
          refine gq_bipush (pc := 28) dX9_readNumber_28 kb_48 ?_
          refine gq_isub (pc := 30) dX9_readNumber_30 ?_
          refine gq_istore_n (pc := 31) (l' := [(1, _), (2, _), (0, _)]) dX9_readNumber_31 (by decide) rfl ?_
          refine gq_aload_n (pc := 32) dX9_readNumber_32 rfl ?_
          refine gq_dup (pc := 33) dX9_readNumber_33 rfl ?_
          refine rd_at (pc := 34) dX9_readNumber_34 fl_X9_27_9 ?_
          refine gq_iconst (pc := 37) dX9_readNumber_37 kc_1 ?_
          refine gq_iadd (pc := 38) dX9_readNumber_38 ?_
          refine rd_pat (pc := 39) (nI_1 _) dX9_readNumber_39 fp_X9_27_9 ?_
          refine gq_iinc (pc := 42) (l' := [(2, _), (1, _), (0, _)]) dX9_readNumber_42 rfl (ge_inc1 c) (by decide) rfl ?_
          refine gq_goto (pc := 45) 4 dX9_readNumber_45 (by decide) ?_
          refine gq_sub [0, 1, 2] rfl ?_
          exact ih (c + 1) (a + 1) _ (by omega) (by omega) he
  refine gq_iconst (pc := 0) dX9_readNumber_0 kc_0 ?_
  refine gq_istore_n (pc := 1) (l' := [(1, _), (0, _)]) dX9_readNumber_1 (by decide) rfl ?_
  refine gq_iconst (pc := 2) dX9_readNumber_2 kc_0 ?_
  refine gq_istore_n (pc := 3) (l' := [(2, _), (1, _), (0, _)]) dX9_readNumber_3 (by decide) rfl ?_
  refine gq_sub [0, 1, 2] rfl ?_
  exact key 4 0 a 0 rfl ha hR
set_option maxHeartbeats 1000000 in
theorem rd_not {o ds : Nat} {F : Nat → q_R} (ht : ¬ g 55 1 = 0) (hu : g 55 2 = nI u) (hN : g 58 1 = nI N) (hu2 : u < 2) (hN2 : N ≤ 50) (hds : 1 ≤ ds) (hf : q_fit N F) (hs : rd_C X g N YX9_readPart ds o F) (a : Nat) (L : List Int32) (ha : a ≤ N) (hL : L.length < a) : ge_N X ge_SH YX9_readNot (ds + 1) [.ref (ge_ad X.1 55), .int (nI o)] (ge_rl g a L) (some (.int (p_b (q_not (F a)).1))) (ge_rl g (q_not (F a)).2.1 (L ++ (q_not (F a)).2.2)) := by
  have fa := hf a ha
  refine gq_ofB (l := [(0, .ref (ge_ad X.1 55)), (1, .int (nI o))]) (by decide) (Nat.le_of_ble_eq_true rfl) rfl ?_
  refine gq_aload_n (pc := 0) dX9_readNot_0 rfl ?_
  refine gq_iload_n (pc := 1) dX9_readNot_1 rfl ?_
  refine gq_rV1i (pc := 2) dX9_readNot_2 cv_X9_60 sh_55 (hs a L ha (by omega)) ⟨by omega, by decide⟩ rfl rfl (Nat.le_of_ble_eq_true rfl) ?_
  refine gq_if_ne (pc := 5) 10 dX9_readNot_5 (by decide) (fun h_5 => ?_) (fun h_5 => ?_)
  · have hg : (F a).1 = true := p_b_n.mp h_5
    refine gq_aload_n (pc := 10) dX9_readNot_10 rfl ?_
    refine gq_getr (pc := 11) dX9_readNot_11 fl_X9_14_9 sh_55 rfl ?_
    refine gq_bipush (pc := 14) dX9_readNot_14 kb_m33 ?_
    refine gq_rV1v (pc := 16) dX9_readNot_16 cv_X9_48 sh_56 (r_add_56 (by simp only [List.length_append]; omega)) ⟨by omega, by decide⟩ rfl rfl (Nat.le_of_ble_eq_true rfl) ?_
    refine gq_iconst (pc := 19) dX9_readNot_19 kc_1 ?_
    exact gq_zret (pc := 20) rfl rfl dX9_readNot_20 ⟨by unfold q_not; rw [hg]; rfl, by unfold q_not q_op; rw [hg]; first | (simp only [if_true, List.append_assoc]; done) | (simp [List.append_assoc])⟩
  · have hg : (F a).1 = false := p_b_0.mp (by first | exact h_5 | exact Decidable.not_not.mp h_5)
    refine gq_iconst (pc := 8) dX9_readNot_8 kc_0 ?_
    exact gq_zret (pc := 9) rfl rfl dX9_readNot_9 ⟨by unfold q_not; rw [hg]; rfl, by unfold q_not q_op; rw [hg]; first | (simp only [if_true, List.append_assoc]; done) | (simp [List.append_assoc])⟩
set_option maxHeartbeats 1000000 in
theorem rd_bra {o ds : Nat} {F : Nat → q_R} (ht : ¬ g 55 1 = 0) (hu : g 55 2 = nI u) (hN : g 58 1 = nI N) (hu2 : u < 2) (hN2 : N ≤ 50) (hds : 1 ≤ ds) (hf : q_fit N F) (hs : rd_C X g N YX9_readText ds o F) : rd_C X g N YX9_readBracket (ds + 1) o (fun a => q_close (e_b (t_r g u) u N) (F a)) := by
  intro a L ha hL
  have fa := hf a ha
  show ge_N X ge_SH YX9_readBracket (ds + 1) [.ref (ge_ad X.1 55), .int (nI o)] (ge_rl g a L) (some (.int (p_b (q_close (e_b (t_r g u) u N) (F a)).1))) (ge_rl g (q_close (e_b (t_r g u) u N) (F a)).2.1 (L ++ (q_close (e_b (t_r g u) u N) (F a)).2.2))
  refine gq_ofB (l := [(0, .ref (ge_ad X.1 55)), (1, .int (nI o))]) (by decide) (Nat.le_of_ble_eq_true rfl) rfl ?_
  refine gq_aload_n (pc := 0) dX9_readBracket_0 rfl ?_
  refine gq_iload_n (pc := 1) dX9_readBracket_1 rfl ?_
  refine gq_rV1i (pc := 2) dX9_readBracket_2 cv_X9_33 sh_55 (hs a L ha hL) ⟨by omega, by decide⟩ rfl rfl (Nat.le_of_ble_eq_true rfl) ?_
  refine gq_if_eq (pc := 5) 17 dX9_readBracket_5 (by decide) (fun h_5 => ?_) (fun h_5 => ?_)
  · have hn : ¬ ((F a).1 = true ∧ (e_b (t_r g u) u N) (F a).2.1 = 41) := fun z => by rw [p_b_0.mp h_5] at z; exact Bool.noConfusion z.1
    refine gq_iconst (pc := 17) dX9_readBracket_17 kc_0 ?_
    exact gq_zret (pc := 18) rfl rfl dX9_readBracket_18 ⟨by unfold q_close; first | (rw [if_neg hn]; rfl) | (rw [if_pos hy]; rfl), by unfold q_close; first | rw [if_neg hn] | rw [if_pos hy]⟩
  · refine gq_aload_n (pc := 8) dX9_readBracket_8 rfl ?_
    refine gq_rV0i (pc := 9) dX9_readBracket_9 cv_X9_44 sh_55 (rd_next ht hu hN hu2 hN2 (by omega)) ⟨by omega, by decide⟩ rfl rfl (Nat.le_of_ble_eq_true rfl) ?_
    refine gq_bipush (pc := 12) dX9_readBracket_12 kb_41 ?_
    refine gq_ic_eq (pc := 14) 19 dX9_readBracket_14 (by decide) (fun h_14 => ?_) (fun h_14 => ?_)
    · have hy : (F a).1 = true ∧ (e_b (t_r g u) u N) (F a).2.1 = 41 := ⟨p_b_n.mp h_5, h_14⟩
      refine gq_aload_n (pc := 19) dX9_readBracket_19 rfl ?_
      refine gq_dup (pc := 20) dX9_readBracket_20 rfl ?_
      refine rd_at (pc := 21) dX9_readBracket_21 fl_X9_27_9 ?_
      refine gq_iconst (pc := 24) dX9_readBracket_24 kc_1 ?_
      refine gq_iadd (pc := 25) dX9_readBracket_25 ?_
      refine rd_pat (pc := 26) (nI_1 _) dX9_readBracket_26 fp_X9_27_9 ?_
      refine gq_iconst (pc := 29) dX9_readBracket_29 kc_1 ?_
      exact gq_zret (pc := 30) rfl rfl dX9_readBracket_30 ⟨by unfold q_close; first | (rw [if_neg hn]; rfl) | (rw [if_pos hy]; rfl), by unfold q_close; first | rw [if_neg hn] | rw [if_pos hy]⟩
    · have hn : ¬ ((F a).1 = true ∧ (e_b (t_r g u) u N) (F a).2.1 = 41) := fun z => h_14 z.2
      refine gq_iconst (pc := 17) dX9_readBracket_17 kc_0 ?_
      exact gq_zret (pc := 18) rfl rfl dX9_readBracket_18 ⟨by unfold q_close; first | (rw [if_neg hn]; rfl) | (rw [if_pos hy]; rfl), by unfold q_close; first | rw [if_neg hn] | rw [if_pos hy]⟩
theorem q_fac_S (b : Nat → Int32) (nm : Int32 → Option Int32) (k a : Nat) : q_fac b nm (k + 1) a = if p_in (b a) 48 57 = 0 then
      (if b a = 33 then q_not (q_fac b nm k (a + 1)) else if b a = 40 then q_close b (q_who b (q_fac b nm k) (a + 1)) else q_leaf b nm a) else q_num b a := rfl
theorem e_nm_z {c : Int32} : (q_nv (e_nm u (-1) (-2) (-3) c) = 0 → e_nm u (-1) (-2) (-3) c = none) ∧ (∀ v, e_nm u (-1) (-2) (-3) c = some v → ¬ c = 33 ∧ ¬ c = 40) := by
  unfold e_nm
  by_cases hu : u = 0
  · simp only [hu, if_true]
    repeat' split
    all_goals first | (subst_vars; exact ⟨fun z => absurd z (by decide), fun v hv => ⟨by decide, by decide⟩⟩) | exact ⟨fun _ => rfl, fun v hv => by cases hv⟩
  · simp only [hu, if_false]
    repeat' split
    all_goals first | (subst_vars; exact ⟨fun z => absurd z (by decide), fun v hv => ⟨by decide, by decide⟩⟩) | exact ⟨fun _ => rfl, fun v hv => by cases hv⟩
set_option maxHeartbeats 1000000 in
theorem rd_part0 (ht : ¬ g 55 1 = 0) (hu : g 55 2 = nI u) (hN : g 58 1 = nI N) (hu2 : u < 2) (hN2 : N ≤ 50) : rd_C X g N YX9_readPart 5 5 (q_fac (e_b (t_r g u) u N) (e_nm u (-1) (-2) (-3)) 0) := by
  intro a L ha hL2
  refine gq_ofB (l := [(0, .ref (ge_ad X.1 55)), (1, .int (nI 5))]) (by decide) (Nat.le_of_ble_eq_true rfl) rfl ?_
  refine gq_aload_n (pc := 0) dX9_readPart_0 rfl ?_
  refine gq_rV0i (pc := 1) dX9_readPart_1 cv_X9_44 sh_55 (rd_next ht hu hN hu2 hN2 (by omega)) ⟨by omega, by decide⟩ rfl rfl (Nat.le_of_ble_eq_true rfl) ?_
  refine gq_istore_n (pc := 4) (l' := [(2, _), (0, _), (1, _)]) dX9_readPart_4 (by decide) rfl ?_
  refine gq_iload_n (pc := 5) dX9_readPart_5 rfl ?_
  refine gq_rS1i (pc := 6) dX9_readPart_6 cs_X9_63 (rd_digit _) ⟨by omega, by decide⟩ (Nat.le_of_ble_eq_true rfl) ?_
  refine gq_if_eq (pc := 9) 18 dX9_readPart_9 (by decide) (fun h_9 => ?_) (fun h_9 => ?_)
  · refine gq_aload_n (pc := 18) dX9_readPart_18 rfl ?_
    refine gq_iload_n (pc := 19) dX9_readPart_19 rfl ?_
    refine gq_rV1i (pc := 20) dX9_readPart_20 cv_X9_69 sh_55 (rd_name hu hu2) ⟨by omega, by decide⟩ rfl rfl (Nat.le_of_ble_eq_true rfl) ?_
    refine gq_if_eq (pc := 23) 50 dX9_readPart_23 (by decide) (fun h_23 => ?_) (fun h_23 => ?_)
    · have hnm : (e_nm u (-1) (-2) (-3)) ((e_b (t_r g u) u N) a) = none := (e_nm_z (c := (e_b (t_r g u) u N) a)).1 h_23
      refine gq_iload_n (pc := 50) dX9_readPart_50 rfl ?_
      refine gq_iconst (pc := 51) dX9_readPart_51 kc_5 ?_
      refine gq_ic_ge (pc := 52) 67 dX9_readPart_52 (by decide) (fun h_52 => ?_) (fun h_52 => ?_)
      · refine gq_iconst (pc := 67) dX9_readPart_67 kc_0 ?_
        exact gq_zret (pc := 68) rfl (by first | rfl | exact p_b_nar _) dX9_readPart_68 (by unfold q_fac; rw [if_pos h_9]; by_cases z : (e_b (t_r g u) u N) a = 33 ∨ (e_b (t_r g u) u N) a = 40; exact (by rw [if_pos z]; exact ⟨rfl, by simp⟩); exact (by rw [if_neg z]; unfold q_leaf; rw [hnm]; exact ⟨rfl, by simp [q_nmr]⟩))
      · exact absurd (by decide) h_52
    · obtain ⟨v, hnm⟩ : ∃ v, (e_nm u (-1) (-2) (-3)) ((e_b (t_r g u) u N) a) = some v := by cases hq : (e_nm u (-1) (-2) (-3)) ((e_b (t_r g u) u N) a) with | none => exact absurd (by rw [hq]; rfl) h_23 | some v => exact ⟨v, rfl⟩
      have hl : a < N := e_b_lt (r := t_r g u) (u := u) (fun z => by rw [z, e_nm_m1] at hnm; cases hnm)
      obtain ⟨n33, n40⟩ := (e_nm_z (c := (e_b (t_r g u) u N) a)).2 v hnm
      refine gq_aload_n (pc := 26) dX9_readPart_26 rfl ?_
      refine gq_getr (pc := 27) dX9_readPart_27 fl_X9_14_9 sh_55 rfl ?_
      refine gq_aload_n (pc := 30) dX9_readPart_30 rfl ?_
      refine gq_iload_n (pc := 31) dX9_readPart_31 rfl ?_
      refine gq_rV1i (pc := 32) dX9_readPart_32 cv_X9_69 sh_55 (rd_name hu hu2) ⟨by omega, by decide⟩ rfl rfl (Nat.le_of_ble_eq_true rfl) ?_
      refine gq_rV1v (pc := 35) dX9_readPart_35 cv_X9_48 sh_56 (r_add_56 (by omega)) ⟨by omega, by decide⟩ rfl rfl (Nat.le_of_ble_eq_true rfl) ?_
      refine gq_aload_n (pc := 38) dX9_readPart_38 rfl ?_
      refine gq_dup (pc := 39) dX9_readPart_39 rfl ?_
      refine rd_at (pc := 40) dX9_readPart_40 fl_X9_27_9 ?_
      refine gq_iconst (pc := 43) dX9_readPart_43 kc_1 ?_
      refine gq_iadd (pc := 44) dX9_readPart_44 ?_
      refine rd_pat (pc := 45) (nI_1 _) dX9_readPart_45 fp_X9_27_9 ?_
      refine gq_iconst (pc := 48) dX9_readPart_48 kc_1 ?_
      exact gq_zret (pc := 49) rfl (by first | rfl | exact p_b_nar _) dX9_readPart_49 ⟨by unfold q_fac; rw [if_pos h_9, if_neg (by simp [n33, n40])]; unfold q_leaf; rw [hnm]; rfl, by unfold q_fac; rw [if_pos h_9, if_neg (by simp [n33, n40])]; unfold q_leaf; rw [hnm]; rfl⟩
  · have hl : a < N := e_b_lt (r := t_r g u) (u := u) (fun z => h_9 (by rw [z]; decide))
    refine gq_aload_n (pc := 12) dX9_readPart_12 rfl ?_
    refine gq_rV0v (pc := 13) dX9_readPart_13 cv_X9_66 sh_55 (rd_num ht hu hN hu2 hN2 ha (by omega)) ⟨by omega, by decide⟩ rfl rfl (Nat.le_of_ble_eq_true rfl) ?_
    refine gq_iconst (pc := 16) dX9_readPart_16 kc_1 ?_
    exact gq_zret (pc := 17) rfl (by first | rfl | exact p_b_nar _) dX9_readPart_17 ⟨by unfold q_fac; rw [if_neg h_9]; rfl, by unfold q_fac; rw [if_neg h_9]; rfl⟩
set_option maxHeartbeats 1000000 in
theorem rd_partS (ht : ¬ g 55 1 = 0) (hu : g 55 2 = nI u) (hN : g 58 1 = nI N) (hu2 : u < 2) (hN2 : N ≤ 50) {k o : Nat} (ho : o + k = 4) (hNo : ∀ a L, a ≤ N → L.length < a → ge_N X ge_SH YX9_readNot (6 + 7 * k) [.ref (ge_ad X.1 55), .int (nI (o + 1))] (ge_rl g a L) (some (.int (p_b (q_not ((q_fac (e_b (t_r g u) u N) (e_nm u (-1) (-2) (-3)) k) a)).1))) (ge_rl g (q_not ((q_fac (e_b (t_r g u) u N) (e_nm u (-1) (-2) (-3)) k) a)).2.1 (L ++ (q_not ((q_fac (e_b (t_r g u) u N) (e_nm u (-1) (-2) (-3)) k) a)).2.2))) (hBr : rd_C X g N YX9_readBracket (11 + 7 * k) (o + 1) (fun a => q_close (e_b (t_r g u) u N) (q_who (e_b (t_r g u) u N) (q_fac (e_b (t_r g u) u N) (e_nm u (-1) (-2) (-3)) k) a))) : rd_C X g N YX9_readPart (5 + 7 * (k + 1)) o (q_fac (e_b (t_r g u) u N) (e_nm u (-1) (-2) (-3)) (k + 1)) := by
  intro a L ha hL2
  refine gq_ofB (l := [(0, .ref (ge_ad X.1 55)), (1, .int (nI o))]) (by decide) (Nat.le_of_ble_eq_true rfl) rfl ?_
  refine gq_aload_n (pc := 0) dX9_readPart_0 rfl ?_
  refine gq_rV0i (pc := 1) dX9_readPart_1 cv_X9_44 sh_55 (rd_next ht hu hN hu2 hN2 (by omega)) ⟨by omega, by decide⟩ rfl rfl (Nat.le_of_ble_eq_true rfl) ?_
  refine gq_istore_n (pc := 4) (l' := [(2, _), (0, _), (1, _)]) dX9_readPart_4 (by decide) rfl ?_
  refine gq_iload_n (pc := 5) dX9_readPart_5 rfl ?_
  refine gq_rS1i (pc := 6) dX9_readPart_6 cs_X9_63 (rd_digit _) ⟨by omega, by decide⟩ (Nat.le_of_ble_eq_true rfl) ?_
  refine gq_if_eq (pc := 9) 18 dX9_readPart_9 (by decide) (fun h_9 => ?_) (fun h_9 => ?_)
  · refine gq_aload_n (pc := 18) dX9_readPart_18 rfl ?_
    refine gq_iload_n (pc := 19) dX9_readPart_19 rfl ?_
    refine gq_rV1i (pc := 20) dX9_readPart_20 cv_X9_69 sh_55 (rd_name hu hu2) ⟨by omega, by decide⟩ rfl rfl (Nat.le_of_ble_eq_true rfl) ?_
    refine gq_if_eq (pc := 23) 50 dX9_readPart_23 (by decide) (fun h_23 => ?_) (fun h_23 => ?_)
    · have hnm : (e_nm u (-1) (-2) (-3)) ((e_b (t_r g u) u N) a) = none := (e_nm_z (c := (e_b (t_r g u) u N) a)).1 h_23
      refine gq_iload_n (pc := 50) dX9_readPart_50 rfl ?_
      refine gq_iconst (pc := 51) dX9_readPart_51 kc_5 ?_
      refine gq_ic_ge (pc := 52) 67 dX9_readPart_52 (by decide) (fun h_52 => ?_) (fun h_52 => ?_)
      · exact absurd ((nI_leI (a := 5) (by omega) (by omega)).mp h_52) (by omega)
      · refine gq_iload_n (pc := 55) dX9_readPart_55 rfl ?_
        refine gq_bipush (pc := 56) dX9_readPart_56 kb_33 ?_
        refine gq_ic_eq (pc := 58) 69 dX9_readPart_58 (by decide) (fun h_58 => ?_) (fun h_58 => ?_)
        · have hl : a < N := e_b_lt (r := t_r g u) (u := u) (fun z => by simp [*] at z)
          refine gq_aload_n (pc := 69) dX9_readPart_69 rfl ?_
          refine gq_dup (pc := 70) dX9_readPart_70 rfl ?_
          refine rd_at (pc := 71) dX9_readPart_71 fl_X9_27_9 ?_
          refine gq_iconst (pc := 74) dX9_readPart_74 kc_1 ?_
          refine gq_iadd (pc := 75) dX9_readPart_75 ?_
          refine rd_pat (pc := 76) (nI_1 _) dX9_readPart_76 fp_X9_27_9 ?_
          refine gq_iload_n (pc := 79) dX9_readPart_79 rfl ?_
          refine gq_bipush (pc := 80) dX9_readPart_80 kb_33 ?_
          refine gq_ic_ne (pc := 82) 95 dX9_readPart_82 (by decide) (fun h_82 => ?_) (fun h_82 => ?_)
          · exact absurd h_58 h_82
          · refine gq_aload_n (pc := 85) dX9_readPart_85 rfl ?_
            refine gq_iload_n (pc := 86) dX9_readPart_86 rfl ?_
            refine gq_iconst (pc := 87) dX9_readPart_87 kc_1 ?_
            refine gq_iadd (pc := 88) dX9_readPart_88 ?_
            rw [nI_1]
            refine gq_rV1i (pc := 89) dX9_readPart_89 cv_X9_73 sh_55 (hNo (a + 1) L (by omega) (by omega)) ⟨by omega, by decide⟩ rfl rfl (Nat.le_of_ble_eq_true rfl) ?_
            refine gq_goto (pc := 92) 102 dX9_readPart_92 (by decide) ?_
            exact gq_zret (pc := 102) rfl (by first | rfl | exact p_b_nar _) dX9_readPart_102 (by rw [q_fac_S, if_pos h_9]; first | (rw [if_pos h_58]; exact ⟨rfl, rfl⟩) | (rw [if_neg h_58, if_pos h_64]; exact ⟨rfl, rfl⟩))
        · refine gq_iload_n (pc := 61) dX9_readPart_61 rfl ?_
          refine gq_bipush (pc := 62) dX9_readPart_62 kb_40 ?_
          refine gq_ic_eq (pc := 64) 69 dX9_readPart_64 (by decide) (fun h_64 => ?_) (fun h_64 => ?_)
          · have hl : a < N := e_b_lt (r := t_r g u) (u := u) (fun z => by simp [*] at z)
            refine gq_aload_n (pc := 69) dX9_readPart_69 rfl ?_
            refine gq_dup (pc := 70) dX9_readPart_70 rfl ?_
            refine rd_at (pc := 71) dX9_readPart_71 fl_X9_27_9 ?_
            refine gq_iconst (pc := 74) dX9_readPart_74 kc_1 ?_
            refine gq_iadd (pc := 75) dX9_readPart_75 ?_
            refine rd_pat (pc := 76) (nI_1 _) dX9_readPart_76 fp_X9_27_9 ?_
            refine gq_iload_n (pc := 79) dX9_readPart_79 rfl ?_
            refine gq_bipush (pc := 80) dX9_readPart_80 kb_33 ?_
            refine gq_ic_ne (pc := 82) 95 dX9_readPart_82 (by decide) (fun h_82 => ?_) (fun h_82 => ?_)
            · refine gq_aload_n (pc := 95) dX9_readPart_95 rfl ?_
              refine gq_iload_n (pc := 96) dX9_readPart_96 rfl ?_
              refine gq_iconst (pc := 97) dX9_readPart_97 kc_1 ?_
              refine gq_iadd (pc := 98) dX9_readPart_98 ?_
              rw [nI_1]
              refine gq_rV1i (pc := 99) dX9_readPart_99 cv_X9_76 sh_55 (hBr (a + 1) L (by omega) (by omega)) ⟨by omega, by decide⟩ rfl rfl (Nat.le_of_ble_eq_true rfl) ?_
              exact gq_zret (pc := 102) rfl (by first | rfl | exact p_b_nar _) dX9_readPart_102 (by rw [q_fac_S, if_pos h_9]; first | (rw [if_pos h_58]; exact ⟨rfl, rfl⟩) | (rw [if_neg h_58, if_pos h_64]; exact ⟨rfl, rfl⟩))
            · exact absurd (by first | exact h_82 | exact Decidable.not_not.mp h_82) h_58
          · refine gq_iconst (pc := 67) dX9_readPart_67 kc_0 ?_
            exact gq_zret (pc := 68) rfl (by first | rfl | exact p_b_nar _) dX9_readPart_68 (by rw [q_fac_S, if_pos h_9, if_neg h_58, if_neg h_64]; unfold q_leaf; rw [hnm]; exact ⟨rfl, by simp [q_nmr]⟩)
    · obtain ⟨v, hnm⟩ : ∃ v, (e_nm u (-1) (-2) (-3)) ((e_b (t_r g u) u N) a) = some v := by cases hq : (e_nm u (-1) (-2) (-3)) ((e_b (t_r g u) u N) a) with | none => exact absurd (by rw [hq]; rfl) h_23 | some v => exact ⟨v, rfl⟩
      have hl : a < N := e_b_lt (r := t_r g u) (u := u) (fun z => by rw [z, e_nm_m1] at hnm; cases hnm)
      obtain ⟨n33, n40⟩ := (e_nm_z (c := (e_b (t_r g u) u N) a)).2 v hnm
      refine gq_aload_n (pc := 26) dX9_readPart_26 rfl ?_
      refine gq_getr (pc := 27) dX9_readPart_27 fl_X9_14_9 sh_55 rfl ?_
      refine gq_aload_n (pc := 30) dX9_readPart_30 rfl ?_
      refine gq_iload_n (pc := 31) dX9_readPart_31 rfl ?_
      refine gq_rV1i (pc := 32) dX9_readPart_32 cv_X9_69 sh_55 (rd_name hu hu2) ⟨by omega, by decide⟩ rfl rfl (Nat.le_of_ble_eq_true rfl) ?_
      refine gq_rV1v (pc := 35) dX9_readPart_35 cv_X9_48 sh_56 (r_add_56 (by omega)) ⟨by omega, by decide⟩ rfl rfl (Nat.le_of_ble_eq_true rfl) ?_
      refine gq_aload_n (pc := 38) dX9_readPart_38 rfl ?_
      refine gq_dup (pc := 39) dX9_readPart_39 rfl ?_
      refine rd_at (pc := 40) dX9_readPart_40 fl_X9_27_9 ?_
      refine gq_iconst (pc := 43) dX9_readPart_43 kc_1 ?_
      refine gq_iadd (pc := 44) dX9_readPart_44 ?_
      refine rd_pat (pc := 45) (nI_1 _) dX9_readPart_45 fp_X9_27_9 ?_
      refine gq_iconst (pc := 48) dX9_readPart_48 kc_1 ?_
      exact gq_zret (pc := 49) rfl (by first | rfl | exact p_b_nar _) dX9_readPart_49 ⟨by rw [q_fac_S]; rw [if_pos h_9, if_neg n33, if_neg n40]; unfold q_leaf; rw [hnm]; rfl, by rw [q_fac_S]; rw [if_pos h_9, if_neg n33, if_neg n40]; unfold q_leaf; rw [hnm]; rfl⟩
  · have hl : a < N := e_b_lt (r := t_r g u) (u := u) (fun z => h_9 (by rw [z]; decide))
    refine gq_aload_n (pc := 12) dX9_readPart_12 rfl ?_
    refine gq_rV0v (pc := 13) dX9_readPart_13 cv_X9_66 sh_55 (rd_num ht hu hN hu2 hN2 ha (by omega)) ⟨by omega, by decide⟩ rfl rfl (Nat.le_of_ble_eq_true rfl) ?_
    refine gq_iconst (pc := 16) dX9_readPart_16 kc_1 ?_
    exact gq_zret (pc := 17) rfl (by first | rfl | exact p_b_nar _) dX9_readPart_17 ⟨by rw [q_fac_S, if_neg h_9]; rfl, by rw [q_fac_S, if_neg h_9]; rfl⟩
theorem q_fit_fac (k : Nat) : q_fit N (q_fac (e_b (t_r g u) u N) (e_nm u (-1) (-2) (-3)) k) := q_fit_of (sub := (e_fac (e_b (t_r g u) u N) (e_nm u 0 0 0) k)) (q_fac_is k) (e_fac_ok (e_nm_m1 u 0 0 0) k)
theorem q_fit_who (k : Nat) : q_fit N (q_who (e_b (t_r g u) u N) (q_fac (e_b (t_r g u) u N) (e_nm u (-1) (-2) (-3)) k)) := q_fit_of (sub := e_who (e_b (t_r g u) u N) (e_fac (e_b (t_r g u) u N) (e_nm u 0 0 0) k)) (q_who_is (q_fac_is k)) (e_who_ok (e_fac_ok (e_nm_m1 u 0 0 0) k))
theorem rd_textOf (ht : ¬ g 55 1 = 0) (hu : g 55 2 = nI u) (hN : g 58 1 = nI N) (hu2 : u < 2) (hN2 : N ≤ 50) {o k : Nat} (hF : rd_C X g N YX9_readPart (5 + 7 * k) o (q_fac (e_b (t_r g u) u N) (e_nm u (-1) (-2) (-3)) k)) : rd_C X g N YX9_readText (10 + 7 * k) o (q_who (e_b (t_r g u) u N) (q_fac (e_b (t_r g u) u N) (e_nm u (-1) (-2) (-3)) k)) := by
  have ok := e_fac_ok (r := t_r g u) (u := u) (n := N) (e_nm_m1 u 0 0 0) k
  have qi := q_fac_is (A := 0) (B := 0) (C := 0) (b := (e_b (t_r g u) u N)) (u := u) k
  have h1 := rd_product ht hu hN hu2 hN2 (by omega) (q_fit_fac k) hF
  have h2 := rd_sum ht hu hN hu2 hN2 (by omega) (q_fit_of (q_pro_is qi) (e_pro_ok ok)) h1
  have h3 := rd_cmp ht hu hN hu2 hN2 (by omega) (q_fit_of (q_sum_is qi) (e_sum_ok ok)) h2
  have h4 := rd_all ht hu hN hu2 hN2 (by omega) (q_fit_of (q_cmp_is qi) (e_cmp_ok ok)) h3
  have h5 := rd_text ht hu hN hu2 hN2 (by omega) (q_fit_of (q_and_is qi) (e_and_ok ok)) h4
  have e : 5 + 7 * k + 1 + 1 + 1 + 1 + 1 = 10 + 7 * k := by omega
  rw [e] at h5
  exact h5
theorem rd_part (ht : ¬ g 55 1 = 0) (hu : g 55 2 = nI u) (hN : g 58 1 = nI N) (hu2 : u < 2) (hN2 : N ≤ 50) : ∀ (k o : Nat), o + k = 5 → rd_C X g N YX9_readPart (5 + 7 * k) o (q_fac (e_b (t_r g u) u N) (e_nm u (-1) (-2) (-3)) k) := by
  intro k
  induction k with
  | zero =>
    intro o ho
    obtain rfl : o = 5 := by omega
    exact rd_part0 ht hu hN hu2 hN2
  | succ k ih =>
    intro o ho
    have h1 := ih (o + 1) (by omega)
    have hn := rd_not ht hu hN hu2 hN2 (by omega) (q_fit_fac k) h1
    have hb := rd_bra ht hu hN hu2 hN2 (by omega) (q_fit_who k) (rd_textOf ht hu hN hu2 hN2 h1)
    have e1 : 5 + 7 * k + 1 = 6 + 7 * k := by omega
    have e2 : 10 + 7 * k + 1 = 11 + 7 * k := by omega
    rw [e1] at hn
    rw [e2] at hb
    exact rd_partS ht hu hN hu2 hN2 (by omega) hn hb
/-- a text's code -/
def q_all (g : ge_G) (u N : Nat) : q_R := q_who (e_b (t_r g u) u N) (q_fac (e_b (t_r g u) u N) (e_nm u (-1) (-2) (-3)) 5) 0
theorem rd_whole (ht : ¬ g 55 1 = 0) (hu : g 55 2 = nI u) (hN : g 58 1 = nI N) (hu2 : u < 2) (hN2 : N ≤ 50) : ge_N X ge_SH YX9_readText 45 [.ref (ge_ad X.1 55), .int 0] (ge_rl g 0 []) (some (.int (p_b (q_all g u N).1))) (ge_rl g (q_all g u N).2.1 (q_all g u N).2.2) :=
  rd_textOf (k := 5) (o := 0) ht hu hN hu2 hN2 (rd_part ht hu hN hu2 hN2 5 0 rfl) 0 [] (Nat.zero_le _) (Nat.le_refl _)
end Y3
