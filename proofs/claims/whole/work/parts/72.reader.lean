section Y1
variable {X : ge_X} {y : ge_Y} {d : Nat} {Q : Option Value → ge_G → Prop} {l : List (Nat × Value)} {st : List Value} {g : ge_G} {pc a N u : Nat} {L : List Int32}
/-- the reader at a, with the code L -/
def ge_rl (g : ge_G) (a : Nat) (L : List Int32) : ge_G := fun q k => if q = 55 then (if k = 3 then nI a else g 55 k) else if q = 56 then (if k = 1 then nI L.length else g 56 k) else if q = 57 then (if k < L.length then L.getD k 0 else g 57 k) else g q k
theorem rl_at {b : Nat} : ge_up (ge_rl g a L) 55 3 (nI b) = ge_rl g b L := by
  funext q k
  by_cases h : q = 55
  · subst h
    by_cases hk : k = 3
    · subst hk; rfl
    · show upd (ge_rl g a L 55) 3 (nI b) k = _
      rw [pk_un hk]
      show (if k = 3 then nI a else g 55 k) = (if k = 3 then nI b else g 55 k)
      rw [if_neg hk, if_neg hk]
  · rw [ge_up_row _ _ _ h]
    unfold ge_rl
    rw [if_neg h, if_neg h]
theorem rl_add {v : Int32} : ge_up (ge_up (ge_rl g a L) 57 L.length v) 56 1 (nI (L.length + 1)) = ge_rl g a (L ++ [v]) := by
  funext q k
  have hl : (L ++ [v]).length = L.length + 1 := by simp
  by_cases h : q = 56
  · subst h
    by_cases hk : k = 1
    · subst hk; show nI (L.length + 1) = nI (L ++ [v]).length; rw [hl]
    · show upd (ge_rl g a L 56) 1 _ k = _
      rw [pk_un hk]
      show (if k = 1 then _ else g 56 k) = (if k = 1 then _ else g 56 k)
      rw [if_neg hk, if_neg hk]
  · rw [ge_up_row _ _ _ h]
    by_cases h7 : q = 57
    · subst h7
      show upd (ge_rl g a L 57) L.length v k = (if k < (L ++ [v]).length then (L ++ [v]).getD k 0 else g 57 k)
      rw [hl]
      by_cases hk : k = L.length
      · subst hk; rw [pk_us, if_pos (by omega)]; simp
      · rw [pk_un hk]
        show (if k < L.length then L.getD k 0 else g 57 k) = _
        by_cases h2 : k < L.length
        · rw [if_pos h2, if_pos (by omega)]; simp [List.getElem?_append_left h2]
        · rw [if_neg h2, if_neg (by omega)]
    · rw [ge_up_row _ _ _ h7]
      unfold ge_rl
      rw [if_neg h, if_neg h7, if_neg h, if_neg h7]
theorem gq_geto {idx p ci k r : Nat} {fs : List ge_F} (dg : decode y.2.1 pc = .ok (.getfield idx, 3)) (hf : ge_fl y.1.cls idx ci k) (hs : ge_SH[p]? = some (.inl (ci, fs))) (hb : fs[k]? = some (some (false, r))) (hz : ¬ ge_Z p k) (hn : ¬ g p k = 0)
    (kk : ge_B X ge_SH y d Q (pc + 3) l (.ref (ge_ad X.1 r) :: st) g) : ge_B X ge_SH y d Q pc l (.ref (ge_ad X.1 p) :: st) g := fun g1 hg => ge_geto dg hf hs hb (by rw [hg p k hz]; exact hn) (kk g1 hg)
theorem gq_puto {idx p ci k r : Nat} {fs : List ge_F} {cn : String} (dg : decode y.2.1 pc = .ok (.putfield idx, 3)) (hf : ge_fp y.1.cls idx ci k (.object cn)) (hs : ge_SH[p]? = some (.inl (ci, fs))) (hb : fs[k]? = some (some (false, r)))
    (kk : ge_B X ge_SH y d Q (pc + 3) l st (ge_up g p k 1)) : ge_B X ge_SH y d Q pc l (.ref (ge_ad X.1 r) :: .ref (ge_ad X.1 p) :: st) g := fun g1 hg => ge_puto dg hf hs hb (kk _ (ge_q_up hg _ _ _))
theorem rd_at {idx : Nat} (dg : decode y.2.1 pc = .ok (.getfield idx, 3)) (hf : ge_fl y.1.cls idx 9 3) (kk : ge_B X ge_SH y d Q (pc + 3) l (.int (nI a) :: st) (ge_rl g a L)) : ge_B X ge_SH y d Q pc l (.ref (ge_ad X.1 55) :: st) (ge_rl g a L) := gq_geti dg hf sh_55 rfl (by unfold ge_Z; omega) kk
theorem rd_tape {idx : Nat} (ht : ¬ g 55 1 = 0) (dg : decode y.2.1 pc = .ok (.getfield idx, 3)) (hf : ge_fl y.1.cls idx 9 1) (kk : ge_B X ge_SH y d Q (pc + 3) l (.ref (ge_ad X.1 58) :: st) (ge_rl g a L)) : ge_B X ge_SH y d Q pc l (.ref (ge_ad X.1 55) :: st) (ge_rl g a L) := gq_geto dg hf sh_55 rfl (by unfold ge_Z; omega) ht kk
theorem rd_use {idx : Nat} (hu : g 55 2 = nI u) (dg : decode y.2.1 pc = .ok (.getfield idx, 3)) (hf : ge_fl y.1.cls idx 9 2) (kk : ge_B X ge_SH y d Q (pc + 3) l (.int (nI u) :: st) (ge_rl g a L)) : ge_B X ge_SH y d Q pc l (.ref (ge_ad X.1 55) :: st) (ge_rl g a L) := gq_geti dg hf sh_55 rfl (by unfold ge_Z; omega) (by rw [← hu] at kk; exact kk)
theorem rd_sz {idx : Nat} (hN : g 58 1 = nI N) (dg : decode y.2.1 pc = .ok (.getfield idx, 3)) (hf : ge_fl y.1.cls idx 7 1) (kk : ge_B X ge_SH y d Q (pc + 3) l (.int (nI N) :: st) (ge_rl g a L)) : ge_B X ge_SH y d Q pc l (.ref (ge_ad X.1 58) :: st) (ge_rl g a L) := gq_geti dg hf sh_58 rfl (by unfold ge_Z; omega) (by rw [← hN] at kk; exact kk)
theorem rd_pat {idx b : Nat} {x : Int32} (hx : x = nI b) (dg : decode y.2.1 pc = .ok (.putfield idx, 3)) (hf : ge_fp y.1.cls idx 9 3 .int) (kk : ge_B X ge_SH y d Q (pc + 3) l st (ge_rl g b L)) : ge_B X ge_SH y d Q pc l (.int x :: .ref (ge_ad X.1 55) :: st) (ge_rl g a L) := gq_puti dg hf sh_55 rfl (by rw [hx, rl_at]; exact kk)
theorem rd_ald {i : Int32} {j : Nat} (hi : i = nI j) (hj : j < 50) (dg : decode y.2.1 pc = .ok (.iaload, 1)) (kk : ge_B X ge_SH y d Q (pc + 1) l (.int (g 59 j) :: st) (ge_rl g a L)) : ge_B X ge_SH y d Q pc l (.int i :: .ref (ge_ad X.1 59) :: st) (ge_rl g a L) := gq_ald dg sh_59 (by decide) hi hj (by decide) kk
/-- the tape's bytes, as a row has a text's -/
def t_r (g : ge_G) (u : Nat) : Nat → Int32 := fun i => g 59 (i - (144 + 50 * u))
theorem t_b (k : Nat) : e_b (t_r g u) u N k = if k < N then g 59 k else -1 := by
  unfold e_b t_r
  rw [show 144 + 50 * u + k - (144 + 50 * u) = k by omega]
def q_nv (o : Option Int32) : Int32 := match o with
  | some v => v
  | none => 0
end Y1
section Y2
variable {X : ge_X} {g : ge_G} {N u : Nat}
set_option maxHeartbeats 400000 in
theorem r_add_56 {v : Int32} {a : Nat} {L : List Int32} (h : L.length < 50) : ge_N X ge_SH YX7_add 0 [.ref (ge_ad X.1 56), .int v] (ge_rl g a L) none (ge_rl g a (L ++ [v])) := by
  refine gq_ofB (l := [(0, .ref (ge_ad X.1 56)), (1, .int v)]) (by decide) (Nat.le_of_ble_eq_true rfl) rfl ?_
  refine gq_aload_n (pc := 0) dX7_add_0 rfl ?_
  refine gq_geti (pc := 1) dX7_add_1 fl_X7_13_7 sh_56 rfl (by unfold ge_Z; omega) ?_
  refine gq_tov (v := nI L.length) rfl ?_
  refine gq_aload_n (pc := 4) dX7_add_4 rfl ?_
  refine gq_getr (pc := 5) dX7_add_5 fl_X7_7_7 sh_56 rfl ?_
  refine gq_alen (pc := 8) (v := 50) dX7_add_8 sh_57 rfl ?_
  refine gq_ic_ge (pc := 9) 32 dX7_add_9 (by decide) (fun h_9 => ?_) (fun h_9 => ?_)
  · exact absurd ((nI_leI (a := 50) (by omega) (by omega)).mp h_9) (by omega)
  · refine gq_aload_n (pc := 12) dX7_add_12 rfl ?_
    refine gq_getr (pc := 13) dX7_add_13 fl_X7_7_7 sh_56 rfl ?_
    refine gq_aload_n (pc := 16) dX7_add_16 rfl ?_
    refine gq_geti (pc := 17) dX7_add_17 fl_X7_13_7 sh_56 rfl (by unfold ge_Z; omega) ?_
    refine gq_tov (v := nI L.length) rfl ?_
    refine gq_iload_n (pc := 20) dX7_add_20 rfl ?_
    refine gq_ast (pc := 21) dX7_add_21 sh_57 rfl h (by decide) ?_
    refine gq_aload_n (pc := 22) dX7_add_22 rfl ?_
    refine gq_dup (pc := 23) dX7_add_23 rfl ?_
    refine gq_geti (pc := 24) dX7_add_24 fl_X7_13_7 sh_56 rfl (by unfold ge_Z; omega) ?_
    refine gq_tov (v := nI L.length) rfl ?_
    refine gq_iconst (pc := 27) dX7_add_27 kc_1 ?_
    refine gq_iadd (pc := 28) dX7_add_28 ?_
    rw [nI_1]
    refine gq_puti (pc := 29) dX7_add_29 fp_X7_13_7 sh_56 rfl ?_
    exact gq_vret (pc := 32) rfl dX7_add_32 ⟨rfl, rl_add⟩
set_option maxHeartbeats 400000 in
theorem rd_next {a : Nat} {L : List Int32} (ht : ¬ g 55 1 = 0) (hu : g 55 2 = nI u) (hN : g 58 1 = nI N) (hu2 : u < 2) (hN2 : N ≤ 50) (ha : a ≤ 50) : ge_N X ge_SH YX9_next 0 [.ref (ge_ad X.1 55)] (ge_rl g a L) (some (.int ((e_b (t_r g u) u N) a))) (ge_rl g a L) := by
  refine gq_ofB (l := [(0, .ref (ge_ad X.1 55))]) (by decide) (Nat.le_of_ble_eq_true rfl) rfl ?_
  refine gq_aload_n (pc := 0) dX9_next_0 rfl ?_
  refine rd_at (pc := 1) dX9_next_1 fl_X9_27_9 ?_
  refine gq_aload_n (pc := 4) dX9_next_4 rfl ?_
  refine rd_tape (pc := 5) ht dX9_next_5 fl_X9_20_9 ?_
  refine rd_sz (pc := 8) hN dX9_next_8 fl_X9_30_7 ?_
  refine gq_ic_ge (pc := 11) 29 dX9_next_11 (by decide) (fun h_11 => ?_) (fun h_11 => ?_)
  · have hk : ¬ a < N := Nat.not_lt.mpr ((nI_leI (by omega) (by omega)).mp h_11)
    refine gq_iconst (pc := 29) dX9_next_29 kc_m1 ?_
    exact gq_iret (pc := 30) rfl dX9_next_30 ⟨by rw [t_b]; first | rw [if_pos hk] | rw [if_neg hk], rfl⟩
  · have hk : a < N := Nat.lt_of_not_le fun z => h_11 ((nI_leI (by omega) (by omega)).mpr z)
    refine gq_aload_n (pc := 14) dX9_next_14 rfl ?_
    refine rd_tape (pc := 15) ht dX9_next_15 fl_X9_20_9 ?_
    refine gq_getr (pc := 18) dX9_next_18 fl_X9_37_7 sh_58 rfl ?_
    refine gq_aload_n (pc := 21) dX9_next_21 rfl ?_
    refine rd_at (pc := 22) dX9_next_22 fl_X9_27_9 ?_
    refine rd_ald (pc := 25) rfl (by omega) dX9_next_25 ?_
    refine gq_goto (pc := 26) 30 dX9_next_26 (by decide) ?_
    exact gq_iret (pc := 30) rfl dX9_next_30 ⟨by rw [t_b]; first | rw [if_pos hk] | rw [if_neg hk], rfl⟩
set_option maxHeartbeats 400000 in
theorem rd_digit (e : Int32) : ge_N X ge_SH YX9_isDigit 0 [.int e] g (some (.int (p_in e 48 57))) g := by
  refine gq_ofB (l := [(0, .int e)]) (by decide) (Nat.le_of_ble_eq_true rfl) rfl ?_
  refine gq_iload_n (pc := 0) dX9_isDigit_0 rfl ?_
  refine gq_bipush (pc := 1) dX9_isDigit_1 kb_48 ?_
  refine gq_ic_lt (pc := 3) 16 dX9_isDigit_3 (by decide) (fun h_3 => ?_) (fun h_3 => ?_)
  · refine gq_iconst (pc := 16) dX9_isDigit_16 kc_0 ?_
    exact gq_zret (pc := 17) rfl rfl dX9_isDigit_17 ⟨by unfold p_in; first | rw [if_pos h_3] | (rw [if_neg h_3]; first | rw [if_pos h_9] | rw [if_neg h_9]), rfl⟩
  · refine gq_iload_n (pc := 6) dX9_isDigit_6 rfl ?_
    refine gq_bipush (pc := 7) dX9_isDigit_7 kb_57 ?_
    refine gq_ic_gt (pc := 9) 16 dX9_isDigit_9 (by decide) (fun h_9 => ?_) (fun h_9 => ?_)
    · refine gq_iconst (pc := 16) dX9_isDigit_16 kc_0 ?_
      exact gq_zret (pc := 17) rfl rfl dX9_isDigit_17 ⟨by unfold p_in; first | rw [if_pos h_3] | (rw [if_neg h_3]; first | rw [if_pos h_9] | rw [if_neg h_9]), rfl⟩
    · refine gq_iconst (pc := 12) dX9_isDigit_12 kc_1 ?_
      refine gq_goto (pc := 13) 17 dX9_isDigit_13 (by decide) ?_
      exact gq_zret (pc := 17) rfl rfl dX9_isDigit_17 ⟨by unfold p_in; first | rw [if_pos h_3] | (rw [if_neg h_3]; first | rw [if_pos h_9] | rw [if_neg h_9]), rfl⟩
set_option maxHeartbeats 1000000 in
theorem rd_name0 {a : Nat} {L : List Int32} {c : Int32} (hu : g 55 2 = nI 0) : ge_N X ge_SH YX9_nameOf 4 [.ref (ge_ad X.1 55), .int c] (ge_rl g a L) (some (.int (q_nv (e_nm 0 (-1) (-2) (-3) c)))) (ge_rl g a L) := by
  refine gq_ofB (l := [(0, .ref (ge_ad X.1 55)), (1, .int c)]) (by decide) (Nat.le_of_ble_eq_true rfl) rfl ?_
  have at3 : ¬ c = 98 → ¬ c = 104 → ¬ c = 109 → ge_B X ge_SH YX9_nameOf 4 (fun v2 g2 => v2 = (some (.int (q_nv (e_nm 0 (-1) (-2) (-3) c)))) ∧ g2 = (ge_rl g a L)) 17 [(3, .int 3), (2, .ref (ge_ad X.1 1000)), (0, .ref (ge_ad X.1 55)), (1, .int c)] [] (ge_rl g a L) := by
    intro n0 n1 n2
    refine gq_iload_n (pc := 17) dX9_nameOf_17 rfl ?_
    refine gq_aload_n (pc := 18) dX9_nameOf_18 rfl ?_
    refine gs_rV0i (i := 0) (pc := 19) (by decide) dX9_nameOf_19 cv_X9_83 rfl (k_strlen (by decide)) ⟨by decide, by decide⟩ (Nat.le_of_ble_eq_true rfl) ?_
    refine gq_ic_ge (pc := 22) 44 dX9_nameOf_22 (by decide) (fun h_22 => ?_) (fun h_22 => ?_)
    · refine gq_iconst (pc := 44) dX9_nameOf_44 kc_0 ?_
      exact gq_iret (pc := 45) rfl dX9_nameOf_45 ⟨by simp [e_nm, q_nv, n0, n1, n2], rfl⟩
    · exact absurd (by decide) h_22
  have at2 : ¬ c = 98 → ¬ c = 104 → ge_B X ge_SH YX9_nameOf 4 (fun v2 g2 => v2 = (some (.int (q_nv (e_nm 0 (-1) (-2) (-3) c)))) ∧ g2 = (ge_rl g a L)) 17 [(3, .int 2), (2, .ref (ge_ad X.1 1000)), (0, .ref (ge_ad X.1 55)), (1, .int c)] [] (ge_rl g a L) := by
    intro n0 n1
    refine gq_iload_n (pc := 17) dX9_nameOf_17 rfl ?_
    refine gq_aload_n (pc := 18) dX9_nameOf_18 rfl ?_
    refine gs_rV0i (i := 0) (pc := 19) (by decide) dX9_nameOf_19 cv_X9_83 rfl (k_strlen (by decide)) ⟨by decide, by decide⟩ (Nat.le_of_ble_eq_true rfl) ?_
    refine gq_ic_ge (pc := 22) 44 dX9_nameOf_22 (by decide) (fun h_22 => ?_) (fun h_22 => ?_)
    · exact absurd h_22 (by decide)
    · refine gq_aload_n (pc := 25) dX9_nameOf_25 rfl ?_
      refine gq_iload_n (pc := 26) dX9_nameOf_26 rfl ?_
      refine gs_rV1i (i := 0) (pc := 27) (by decide) dX9_nameOf_27 cv_X9_88 rfl (k_charAt (k := 2) (by decide) (by decide)) ⟨by decide, by decide⟩ (Nat.le_of_ble_eq_true rfl) ?_
      refine gq_tov (v := 109) (by decide) ?_
      refine gq_iload_n (pc := 30) dX9_nameOf_30 rfl ?_
      refine gq_ic_ne (pc := 31) 38 dX9_nameOf_31 (by decide) (fun h_31 => ?_) (fun h_31 => ?_)
      · refine gq_iinc (pc := 38) (l' := [(3, _), (2, _), (0, _), (1, _)]) dX9_nameOf_38 rfl (by decide : (2 : Int32) + Int32.ofInt 1 = 3) (by decide) rfl ?_
        refine gq_goto (pc := 41) 17 dX9_nameOf_41 (by decide) ?_
        refine gq_sub [0, 1, 2, 3] rfl ?_
        exact at3 n0 n1 (fun z => h_31 z.symm)
      · refine gq_iconst (pc := 34) dX9_nameOf_34 kc_m1 ?_
        refine gq_iload_n (pc := 35) dX9_nameOf_35 rfl ?_
        refine gq_isub (pc := 36) dX9_nameOf_36 ?_
        exact gq_iret (pc := 37) rfl dX9_nameOf_37 ⟨by simp [e_nm, q_nv, n0, n1, ← h_31], rfl⟩
  have at1 : ¬ c = 98 → ge_B X ge_SH YX9_nameOf 4 (fun v2 g2 => v2 = (some (.int (q_nv (e_nm 0 (-1) (-2) (-3) c)))) ∧ g2 = (ge_rl g a L)) 17 [(3, .int 1), (2, .ref (ge_ad X.1 1000)), (0, .ref (ge_ad X.1 55)), (1, .int c)] [] (ge_rl g a L) := by
    intro n0
    refine gq_iload_n (pc := 17) dX9_nameOf_17 rfl ?_
    refine gq_aload_n (pc := 18) dX9_nameOf_18 rfl ?_
    refine gs_rV0i (i := 0) (pc := 19) (by decide) dX9_nameOf_19 cv_X9_83 rfl (k_strlen (by decide)) ⟨by decide, by decide⟩ (Nat.le_of_ble_eq_true rfl) ?_
    refine gq_ic_ge (pc := 22) 44 dX9_nameOf_22 (by decide) (fun h_22 => ?_) (fun h_22 => ?_)
    · exact absurd h_22 (by decide)
    · refine gq_aload_n (pc := 25) dX9_nameOf_25 rfl ?_
      refine gq_iload_n (pc := 26) dX9_nameOf_26 rfl ?_
      refine gs_rV1i (i := 0) (pc := 27) (by decide) dX9_nameOf_27 cv_X9_88 rfl (k_charAt (k := 1) (by decide) (by decide)) ⟨by decide, by decide⟩ (Nat.le_of_ble_eq_true rfl) ?_
      refine gq_tov (v := 104) (by decide) ?_
      refine gq_iload_n (pc := 30) dX9_nameOf_30 rfl ?_
      refine gq_ic_ne (pc := 31) 38 dX9_nameOf_31 (by decide) (fun h_31 => ?_) (fun h_31 => ?_)
      · refine gq_iinc (pc := 38) (l' := [(3, _), (2, _), (0, _), (1, _)]) dX9_nameOf_38 rfl (by decide : (1 : Int32) + Int32.ofInt 1 = 2) (by decide) rfl ?_
        refine gq_goto (pc := 41) 17 dX9_nameOf_41 (by decide) ?_
        refine gq_sub [0, 1, 2, 3] rfl ?_
        exact at2 n0 (fun z => h_31 z.symm)
      · refine gq_iconst (pc := 34) dX9_nameOf_34 kc_m1 ?_
        refine gq_iload_n (pc := 35) dX9_nameOf_35 rfl ?_
        refine gq_isub (pc := 36) dX9_nameOf_36 ?_
        exact gq_iret (pc := 37) rfl dX9_nameOf_37 ⟨by simp [e_nm, q_nv, n0, ← h_31], rfl⟩
  have at0 : ge_B X ge_SH YX9_nameOf 4 (fun v2 g2 => v2 = (some (.int (q_nv (e_nm 0 (-1) (-2) (-3) c)))) ∧ g2 = (ge_rl g a L)) 17 [(3, .int 0), (2, .ref (ge_ad X.1 1000)), (0, .ref (ge_ad X.1 55)), (1, .int c)] [] (ge_rl g a L) := by
    refine gq_iload_n (pc := 17) dX9_nameOf_17 rfl ?_
    refine gq_aload_n (pc := 18) dX9_nameOf_18 rfl ?_
    refine gs_rV0i (i := 0) (pc := 19) (by decide) dX9_nameOf_19 cv_X9_83 rfl (k_strlen (by decide)) ⟨by decide, by decide⟩ (Nat.le_of_ble_eq_true rfl) ?_
    refine gq_ic_ge (pc := 22) 44 dX9_nameOf_22 (by decide) (fun h_22 => ?_) (fun h_22 => ?_)
    · exact absurd h_22 (by decide)
    · refine gq_aload_n (pc := 25) dX9_nameOf_25 rfl ?_
      refine gq_iload_n (pc := 26) dX9_nameOf_26 rfl ?_
      refine gs_rV1i (i := 0) (pc := 27) (by decide) dX9_nameOf_27 cv_X9_88 rfl (k_charAt (k := 0) (by decide) (by decide)) ⟨by decide, by decide⟩ (Nat.le_of_ble_eq_true rfl) ?_
      refine gq_tov (v := 98) (by decide) ?_
      refine gq_iload_n (pc := 30) dX9_nameOf_30 rfl ?_
      refine gq_ic_ne (pc := 31) 38 dX9_nameOf_31 (by decide) (fun h_31 => ?_) (fun h_31 => ?_)
      · refine gq_iinc (pc := 38) (l' := [(3, _), (2, _), (0, _), (1, _)]) dX9_nameOf_38 rfl (by decide : (0 : Int32) + Int32.ofInt 1 = 1) (by decide) rfl ?_
        refine gq_goto (pc := 41) 17 dX9_nameOf_41 (by decide) ?_
        refine gq_sub [0, 1, 2, 3] rfl ?_
        exact at1  (fun z => h_31 z.symm)
      · refine gq_iconst (pc := 34) dX9_nameOf_34 kc_m1 ?_
        refine gq_iload_n (pc := 35) dX9_nameOf_35 rfl ?_
        refine gq_isub (pc := 36) dX9_nameOf_36 ?_
        exact gq_iret (pc := 37) rfl dX9_nameOf_37 ⟨by simp [e_nm, q_nv, ← h_31], rfl⟩
  refine gq_aload_n (pc := 0) dX9_nameOf_0 rfl ?_
  refine rd_use (pc := 1) hu dX9_nameOf_1 fl_X9_23_9 ?_
  refine gq_if_ne (pc := 4) 12 dX9_nameOf_4 (by decide) (fun h_4 => ?_) (fun h_4 => ?_)
  · exact absurd (by rfl) h_4
  · refine gs_ldc0 (pc := 7) rfl dX9_nameOf_7 ?_
    refine gq_goto (pc := 9) 14 dX9_nameOf_9 (by decide) ?_
    refine gq_astore_n (pc := 14) (l' := [(2, _), (0, _), (1, _)]) dX9_nameOf_14 (by decide) rfl ?_
    refine gq_iconst (pc := 15) dX9_nameOf_15 kc_0 ?_
    refine gq_istore_n (pc := 16) (l' := [(3, _), (2, _), (0, _), (1, _)]) dX9_nameOf_16 (by decide) rfl ?_
    refine gq_sub [0, 1, 2, 3] rfl ?_
    exact at0
set_option maxHeartbeats 1000000 in
theorem rd_name1 {a : Nat} {L : List Int32} {c : Int32} (hu : g 55 2 = nI 1) : ge_N X ge_SH YX9_nameOf 4 [.ref (ge_ad X.1 55), .int c] (ge_rl g a L) (some (.int (q_nv (e_nm 1 (-1) (-2) (-3) c)))) (ge_rl g a L) := by
  refine gq_ofB (l := [(0, .ref (ge_ad X.1 55)), (1, .int c)]) (by decide) (Nat.le_of_ble_eq_true rfl) rfl ?_
  have at3 : ¬ c = 108 → ¬ c = 114 → ¬ c = 104 → ge_B X ge_SH YX9_nameOf 4 (fun v2 g2 => v2 = (some (.int (q_nv (e_nm 1 (-1) (-2) (-3) c)))) ∧ g2 = (ge_rl g a L)) 17 [(3, .int 3), (2, .ref (ge_ad X.1 1001)), (0, .ref (ge_ad X.1 55)), (1, .int c)] [] (ge_rl g a L) := by
    intro n0 n1 n2
    refine gq_iload_n (pc := 17) dX9_nameOf_17 rfl ?_
    refine gq_aload_n (pc := 18) dX9_nameOf_18 rfl ?_
    refine gs_rV0i (i := 1) (pc := 19) (by decide) dX9_nameOf_19 cv_X9_83 rfl (k_strlen (by decide)) ⟨by decide, by decide⟩ (Nat.le_of_ble_eq_true rfl) ?_
    refine gq_ic_ge (pc := 22) 44 dX9_nameOf_22 (by decide) (fun h_22 => ?_) (fun h_22 => ?_)
    · refine gq_iconst (pc := 44) dX9_nameOf_44 kc_0 ?_
      exact gq_iret (pc := 45) rfl dX9_nameOf_45 ⟨by simp [e_nm, q_nv, n0, n1, n2], rfl⟩
    · exact absurd (by decide) h_22
  have at2 : ¬ c = 108 → ¬ c = 114 → ge_B X ge_SH YX9_nameOf 4 (fun v2 g2 => v2 = (some (.int (q_nv (e_nm 1 (-1) (-2) (-3) c)))) ∧ g2 = (ge_rl g a L)) 17 [(3, .int 2), (2, .ref (ge_ad X.1 1001)), (0, .ref (ge_ad X.1 55)), (1, .int c)] [] (ge_rl g a L) := by
    intro n0 n1
    refine gq_iload_n (pc := 17) dX9_nameOf_17 rfl ?_
    refine gq_aload_n (pc := 18) dX9_nameOf_18 rfl ?_
    refine gs_rV0i (i := 1) (pc := 19) (by decide) dX9_nameOf_19 cv_X9_83 rfl (k_strlen (by decide)) ⟨by decide, by decide⟩ (Nat.le_of_ble_eq_true rfl) ?_
    refine gq_ic_ge (pc := 22) 44 dX9_nameOf_22 (by decide) (fun h_22 => ?_) (fun h_22 => ?_)
    · exact absurd h_22 (by decide)
    · refine gq_aload_n (pc := 25) dX9_nameOf_25 rfl ?_
      refine gq_iload_n (pc := 26) dX9_nameOf_26 rfl ?_
      refine gs_rV1i (i := 1) (pc := 27) (by decide) dX9_nameOf_27 cv_X9_88 rfl (k_charAt (k := 2) (by decide) (by decide)) ⟨by decide, by decide⟩ (Nat.le_of_ble_eq_true rfl) ?_
      refine gq_tov (v := 104) (by decide) ?_
      refine gq_iload_n (pc := 30) dX9_nameOf_30 rfl ?_
      refine gq_ic_ne (pc := 31) 38 dX9_nameOf_31 (by decide) (fun h_31 => ?_) (fun h_31 => ?_)
      · refine gq_iinc (pc := 38) (l' := [(3, _), (2, _), (0, _), (1, _)]) dX9_nameOf_38 rfl (by decide : (2 : Int32) + Int32.ofInt 1 = 3) (by decide) rfl ?_
        refine gq_goto (pc := 41) 17 dX9_nameOf_41 (by decide) ?_
        refine gq_sub [0, 1, 2, 3] rfl ?_
        exact at3 n0 n1 (fun z => h_31 z.symm)
      · refine gq_iconst (pc := 34) dX9_nameOf_34 kc_m1 ?_
        refine gq_iload_n (pc := 35) dX9_nameOf_35 rfl ?_
        refine gq_isub (pc := 36) dX9_nameOf_36 ?_
        exact gq_iret (pc := 37) rfl dX9_nameOf_37 ⟨by simp [e_nm, q_nv, n0, n1, ← h_31], rfl⟩
  have at1 : ¬ c = 108 → ge_B X ge_SH YX9_nameOf 4 (fun v2 g2 => v2 = (some (.int (q_nv (e_nm 1 (-1) (-2) (-3) c)))) ∧ g2 = (ge_rl g a L)) 17 [(3, .int 1), (2, .ref (ge_ad X.1 1001)), (0, .ref (ge_ad X.1 55)), (1, .int c)] [] (ge_rl g a L) := by
    intro n0
    refine gq_iload_n (pc := 17) dX9_nameOf_17 rfl ?_
    refine gq_aload_n (pc := 18) dX9_nameOf_18 rfl ?_
    refine gs_rV0i (i := 1) (pc := 19) (by decide) dX9_nameOf_19 cv_X9_83 rfl (k_strlen (by decide)) ⟨by decide, by decide⟩ (Nat.le_of_ble_eq_true rfl) ?_
    refine gq_ic_ge (pc := 22) 44 dX9_nameOf_22 (by decide) (fun h_22 => ?_) (fun h_22 => ?_)
    · exact absurd h_22 (by decide)
    · refine gq_aload_n (pc := 25) dX9_nameOf_25 rfl ?_
      refine gq_iload_n (pc := 26) dX9_nameOf_26 rfl ?_
      refine gs_rV1i (i := 1) (pc := 27) (by decide) dX9_nameOf_27 cv_X9_88 rfl (k_charAt (k := 1) (by decide) (by decide)) ⟨by decide, by decide⟩ (Nat.le_of_ble_eq_true rfl) ?_
      refine gq_tov (v := 114) (by decide) ?_
      refine gq_iload_n (pc := 30) dX9_nameOf_30 rfl ?_
      refine gq_ic_ne (pc := 31) 38 dX9_nameOf_31 (by decide) (fun h_31 => ?_) (fun h_31 => ?_)
      · refine gq_iinc (pc := 38) (l' := [(3, _), (2, _), (0, _), (1, _)]) dX9_nameOf_38 rfl (by decide : (1 : Int32) + Int32.ofInt 1 = 2) (by decide) rfl ?_
        refine gq_goto (pc := 41) 17 dX9_nameOf_41 (by decide) ?_
        refine gq_sub [0, 1, 2, 3] rfl ?_
        exact at2 n0 (fun z => h_31 z.symm)
      · refine gq_iconst (pc := 34) dX9_nameOf_34 kc_m1 ?_
        refine gq_iload_n (pc := 35) dX9_nameOf_35 rfl ?_
        refine gq_isub (pc := 36) dX9_nameOf_36 ?_
        exact gq_iret (pc := 37) rfl dX9_nameOf_37 ⟨by simp [e_nm, q_nv, n0, ← h_31], rfl⟩
  have at0 : ge_B X ge_SH YX9_nameOf 4 (fun v2 g2 => v2 = (some (.int (q_nv (e_nm 1 (-1) (-2) (-3) c)))) ∧ g2 = (ge_rl g a L)) 17 [(3, .int 0), (2, .ref (ge_ad X.1 1001)), (0, .ref (ge_ad X.1 55)), (1, .int c)] [] (ge_rl g a L) := by
    refine gq_iload_n (pc := 17) dX9_nameOf_17 rfl ?_
    refine gq_aload_n (pc := 18) dX9_nameOf_18 rfl ?_
    refine gs_rV0i (i := 1) (pc := 19) (by decide) dX9_nameOf_19 cv_X9_83 rfl (k_strlen (by decide)) ⟨by decide, by decide⟩ (Nat.le_of_ble_eq_true rfl) ?_
    refine gq_ic_ge (pc := 22) 44 dX9_nameOf_22 (by decide) (fun h_22 => ?_) (fun h_22 => ?_)
    · exact absurd h_22 (by decide)
    · refine gq_aload_n (pc := 25) dX9_nameOf_25 rfl ?_
      refine gq_iload_n (pc := 26) dX9_nameOf_26 rfl ?_
      refine gs_rV1i (i := 1) (pc := 27) (by decide) dX9_nameOf_27 cv_X9_88 rfl (k_charAt (k := 0) (by decide) (by decide)) ⟨by decide, by decide⟩ (Nat.le_of_ble_eq_true rfl) ?_
      refine gq_tov (v := 108) (by decide) ?_
      refine gq_iload_n (pc := 30) dX9_nameOf_30 rfl ?_
      refine gq_ic_ne (pc := 31) 38 dX9_nameOf_31 (by decide) (fun h_31 => ?_) (fun h_31 => ?_)
      · refine gq_iinc (pc := 38) (l' := [(3, _), (2, _), (0, _), (1, _)]) dX9_nameOf_38 rfl (by decide : (0 : Int32) + Int32.ofInt 1 = 1) (by decide) rfl ?_
        refine gq_goto (pc := 41) 17 dX9_nameOf_41 (by decide) ?_
        refine gq_sub [0, 1, 2, 3] rfl ?_
        exact at1  (fun z => h_31 z.symm)
      · refine gq_iconst (pc := 34) dX9_nameOf_34 kc_m1 ?_
        refine gq_iload_n (pc := 35) dX9_nameOf_35 rfl ?_
        refine gq_isub (pc := 36) dX9_nameOf_36 ?_
        exact gq_iret (pc := 37) rfl dX9_nameOf_37 ⟨by simp [e_nm, q_nv, ← h_31], rfl⟩
  refine gq_aload_n (pc := 0) dX9_nameOf_0 rfl ?_
  refine rd_use (pc := 1) hu dX9_nameOf_1 fl_X9_23_9 ?_
  refine gq_if_ne (pc := 4) 12 dX9_nameOf_4 (by decide) (fun h_4 => ?_) (fun h_4 => ?_)
  · refine gs_ldc1 (pc := 12) rfl dX9_nameOf_12 ?_
    refine gq_astore_n (pc := 14) (l' := [(2, _), (0, _), (1, _)]) dX9_nameOf_14 (by decide) rfl ?_
    refine gq_iconst (pc := 15) dX9_nameOf_15 kc_0 ?_
    refine gq_istore_n (pc := 16) (l' := [(3, _), (2, _), (0, _), (1, _)]) dX9_nameOf_16 (by decide) rfl ?_
    refine gq_sub [0, 1, 2, 3] rfl ?_
    exact at0
  · exact absurd h_4 (by decide)
theorem rd_name {a : Nat} {L : List Int32} {c : Int32} (hu : g 55 2 = nI u) (hu2 : u < 2) : ge_N X ge_SH YX9_nameOf 4 [.ref (ge_ad X.1 55), .int c] (ge_rl g a L) (some (.int (q_nv (e_nm u (-1) (-2) (-3) c)))) (ge_rl g a L) := by
  rcases (by omega : u = 0 ∨ u = 1) with rfl | rfl
  · exact rd_name0 hu
  · exact rd_name1 hu
end Y2
