section T6
variable {X : ge_X} {g : ge_G} {r x hb r2 x2 hb2 f : Nat → Int32} {c V : Nat}
def p_wb2 (r : Nat → Int32) (V n w o : Nat) : Int32 := nI (p_sb (p_hrs (p_swap r w o) n) V)
def p_wk (r : Nat → Int32) (V n w : Nat) (q : Int32 × Int32) : Nat → Int32 × Int32
  | 0 => q
  | j + 1 => if (p_wk r V n w q j).2 < p_wb2 r V n w (w + 1 + j) then (nI (10 * w + (w + 1 + j)), p_wb2 r V n w (w + 1 + j)) else p_wk r V n w q j
def p_wo (r : Nat → Int32) (V n : Nat) : Nat → Int32 × Int32
  | 0 => (-1, nI (p_sb (p_hrs r n) V))
  | w + 1 => p_wk r V n w (p_wo r V n w) (V - 1 - w)
def gt_wk (r : Nat → Int32) (V n w : Nat) (g : ge_G) : Nat → ge_G
  | 0 => g
  | j + 1 => ge_t1 (gt_wk r V n w g j) (p_swap r w (w + 1 + j)) V n
def gt_wo (r : Nat → Int32) (V n : Nat) (g : ge_G) : Nat → ge_G
  | 0 => ge_t1 g r V n
  | w + 1 => gt_wk r V n w (gt_wo r V n g w) (V - 1 - w)
def p_wkf (r : Nat → Int32) (n w : Nat) (f : Nat → Int32) : Nat → Nat → Int32
  | 0 => f
  | j + 1 => p_tb (p_wkf r n w f j) (p_pt (p_wkf r n w f j) (p_swap r w (w + 1 + j)) n) (p_pb (p_wkf r n w f j) (p_swap r w (w + 1 + j)) n)
def p_wof (r : Nat → Int32) (V n : Nat) (f : Nat → Int32) : Nat → Nat → Int32
  | 0 => p_tb f (p_pt f r n) (p_pb f r n)
  | w + 1 => p_wkf r n w (p_wof r V n f w) (V - 1 - w)
theorem gt_wk_o {n w q : Nat} (h : q < 35 ∨ 44 < q) : ∀ k, gt_wk r V n w g k q = g q := by
  intro k
  induction k with
  | zero => rfl
  | succ k ih => show ge_t1 (gt_wk r V n w g k) _ V n q = g q; rw [ge_t1_o h, ih]
theorem gt_wo_o {n q : Nat} (h : q < 35 ∨ 44 < q) : ∀ e, gt_wo r V n g e q = g q := by
  intro e
  induction e with
  | zero => exact ge_t1_o h
  | succ e ih => show gt_wk r V n e (gt_wo r V n g e) (V - 1 - e) q = g q; rw [gt_wk_o h, ih]
theorem p_wkf_o {n w j : Nat} (h : j ≠ 15 ∧ j ≠ 16) : ∀ k, p_wkf r n w f k j = f j := by
  intro k
  induction k with
  | zero => rfl
  | succ k ih => show p_tb (p_wkf r n w f k) _ _ j = f j; rw [p_tb_o h, ih]
theorem p_wof_o {n j : Nat} (h : j ≠ 15 ∧ j ≠ 16) : ∀ e, p_wof r V n f e j = f j := by
  intro e
  induction e with
  | zero => exact p_tb_o h
  | succ e ih => show p_wkf r n e (p_wof r V n f e) (V - 1 - e) j = f j; rw [p_wkf_o h, ih]
theorem p_wk_y {n w j : Nat} {q : Int32 × Int32} (h : (p_wk r V n w q j).2 < p_wb2 r V n w (w + 1 + j)) : p_wk r V n w q (j + 1) = (nI (10 * w + (w + 1 + j)), p_wb2 r V n w (w + 1 + j)) := if_pos h
theorem p_wk_n {n w j : Nat} {q : Int32 × Int32} (h : ¬ (p_wk r V n w q j).2 < p_wb2 r V n w (w + 1 + j)) : p_wk r V n w q (j + 1) = p_wk r V n w q j := if_neg h
theorem p_swap_c {i j : Nat} (hij : i ≠ j) : p_uo (p_uo (p_uo (p_uo r i 0 (p_o r j 0)) j 0 (p_o r i 0)) i 1 (p_o r j 1)) j 1 (p_o r i 1) = p_swap r i j := by
  unfold p_swap p_sw1
  rw [p_o_uo _ _ _ _ _ _ (by decide) (by decide), p_o_uo _ _ _ _ _ _ (by decide) (by decide), p_o_uo _ _ _ _ _ _ (by decide) (by decide), p_o_uo _ _ _ _ _ _ (by decide) (by decide)]
  simp
set_option maxHeartbeats 400000 in
theorem c_swapped {n : Int32} {i j N : Nat} (h : p_ok g (c + N) V (p_swap r i j)) (hi : i < V) (hj : j < V) (hij : i ≠ j) (hN : n = nI N) (hN2 : N ≤ 60) : ge_N X ge_SH YX11_thingsIfSwapped 6 [.ref (ge_ad X.1 0), .int (nI i), .int (nI j), .int n] (ge_k g 25 r x hb) (some (.int (p_wb2 r V N i j))) (ge_k (ge_t1 g (p_swap r i j) V N) 25 r x hb) := by
  have ho := p_ok_hrs (c := c) N h
  have hV := ho.2.2.1
  have hb1 := p_sb_in ho.1 hV
  refine gq_ofB (l := [(0, .ref (ge_ad X.1 0)), (1, .int (nI i)), (2, .int (nI j)), (3, .int n)]) (by decide) (Nat.le_of_ble_eq_true rfl) rfl ?_
  refine gq_aload_n (pc := 0) dX11_thingsIfSwapped_0 rfl ?_
  refine gq_getr (pc := 1) dX11_thingsIfSwapped_1 fl_X11_64_11 sh_0 rfl ?_
  refine gq_aload_n (pc := 4) dX11_thingsIfSwapped_4 rfl ?_
  refine gq_getr (pc := 5) dX11_thingsIfSwapped_5 fl_X11_60_11 sh_0 rfl ?_
  refine gq_rV1v (pc := 8) dX11_thingsIfSwapped_8 cv_X11_223 sh_35 c_cp ⟨by decide, by decide⟩ rfl rfl (Nat.le_of_ble_eq_true rfl) ?_
  refine gq_iconst (pc := 11) dX11_thingsIfSwapped_11 kc_0 ?_
  refine gq_istore (pc := 12) (l' := [(4, _), (0, _), (1, _), (2, _), (3, _)]) dX11_thingsIfSwapped_12 (by decide) rfl ?_
  refine gq_iload (pc := 14) dX11_thingsIfSwapped_14 rfl ?_
  refine gq_iconst (pc := 16) dX11_thingsIfSwapped_16 kc_1 ?_
  refine gq_ic_gt (pc := 17) 82 dX11_thingsIfSwapped_17 (by decide) (fun h_17 => ?_) (fun h_17 => ?_)
  · exact absurd h_17 (by decide)
  · refine gq_aload_n (pc := 20) dX11_thingsIfSwapped_20 rfl ?_
    refine gq_getr (pc := 21) dX11_thingsIfSwapped_21 fl_X11_64_11 sh_0 rfl ?_
    refine gq_getr (pc := 24) dX11_thingsIfSwapped_24 fl_X11_250_10 sh_35 rfl ?_
    refine gq_iconst (pc := 27) dX11_thingsIfSwapped_27 kc_2 ?_
    refine gq_iload_n (pc := 28) dX11_thingsIfSwapped_28 rfl ?_
    refine gq_imul (pc := 29) dX11_thingsIfSwapped_29 ?_
    refine gq_iload (pc := 30) dX11_thingsIfSwapped_30 rfl ?_
    refine gq_iadd (pc := 32) dX11_thingsIfSwapped_32 ?_
    refine gq_aload_n (pc := 33) dX11_thingsIfSwapped_33 rfl ?_
    refine gq_getr (pc := 34) dX11_thingsIfSwapped_34 fl_X11_60_11 sh_0 rfl ?_
    refine gq_getr (pc := 37) dX11_thingsIfSwapped_37 fl_X11_250_10 sh_25 rfl ?_
    refine gq_iconst (pc := 40) dX11_thingsIfSwapped_40 kc_2 ?_
    refine gq_iload_n (pc := 41) dX11_thingsIfSwapped_41 rfl ?_
    refine gq_imul (pc := 42) dX11_thingsIfSwapped_42 ?_
    refine gq_iload (pc := 43) dX11_thingsIfSwapped_43 rfl ?_
    refine gq_iadd (pc := 45) dX11_thingsIfSwapped_45 ?_
    refine kq_ald6 (pw := 25) (pc := 46) (by decide) dX11_thingsIfSwapped_46 (w := j) (s := 0) (by rw [show (2 : Int32) * nI j = nI (2 * j) from pk_mul 2 j]; exact nI_add (2 * j) 0) (by omega) (by omega) ?_
    refine kt_ast6 (pc := 47) dX11_thingsIfSwapped_47 (w := i) (s := 0) (by rw [show (2 : Int32) * nI i = nI (2 * i) from pk_mul 2 i]; exact nI_add (2 * i) 0) (by omega) (by omega) ?_
    refine gq_aload_n (pc := 48) dX11_thingsIfSwapped_48 rfl ?_
    refine gq_getr (pc := 49) dX11_thingsIfSwapped_49 fl_X11_64_11 sh_0 rfl ?_
    refine gq_getr (pc := 52) dX11_thingsIfSwapped_52 fl_X11_250_10 sh_35 rfl ?_
    refine gq_iconst (pc := 55) dX11_thingsIfSwapped_55 kc_2 ?_
    refine gq_iload_n (pc := 56) dX11_thingsIfSwapped_56 rfl ?_
    refine gq_imul (pc := 57) dX11_thingsIfSwapped_57 ?_
    refine gq_iload (pc := 58) dX11_thingsIfSwapped_58 rfl ?_
    refine gq_iadd (pc := 60) dX11_thingsIfSwapped_60 ?_
    refine gq_aload_n (pc := 61) dX11_thingsIfSwapped_61 rfl ?_
    refine gq_getr (pc := 62) dX11_thingsIfSwapped_62 fl_X11_60_11 sh_0 rfl ?_
    refine gq_getr (pc := 65) dX11_thingsIfSwapped_65 fl_X11_250_10 sh_25 rfl ?_
    refine gq_iconst (pc := 68) dX11_thingsIfSwapped_68 kc_2 ?_
    refine gq_iload_n (pc := 69) dX11_thingsIfSwapped_69 rfl ?_
    refine gq_imul (pc := 70) dX11_thingsIfSwapped_70 ?_
    refine gq_iload (pc := 71) dX11_thingsIfSwapped_71 rfl ?_
    refine gq_iadd (pc := 73) dX11_thingsIfSwapped_73 ?_
    refine kq_ald6 (pw := 25) (pc := 74) (by decide) dX11_thingsIfSwapped_74 (w := i) (s := 0) (by rw [show (2 : Int32) * nI i = nI (2 * i) from pk_mul 2 i]; exact nI_add (2 * i) 0) (by omega) (by omega) ?_
    refine kt_ast6 (pc := 75) dX11_thingsIfSwapped_75 (w := j) (s := 0) (by rw [show (2 : Int32) * nI j = nI (2 * j) from pk_mul 2 j]; exact nI_add (2 * j) 0) (by omega) (by omega) ?_
    refine gq_iinc (pc := 76) (l' := [(4, _), (0, _), (1, _), (2, _), (3, _)]) dX11_thingsIfSwapped_76 rfl (by decide : (0 : Int32) + Int32.ofInt 1 = 1) (by decide) rfl ?_
    refine gq_goto (pc := 79) 14 dX11_thingsIfSwapped_79 (by decide) ?_
    refine gq_iload (pc := 14) dX11_thingsIfSwapped_14 rfl ?_
    refine gq_iconst (pc := 16) dX11_thingsIfSwapped_16 kc_1 ?_
    refine gq_ic_gt (pc := 17) 82 dX11_thingsIfSwapped_17 (by decide) (fun h_17 => ?_) (fun h_17 => ?_)
    · exact absurd h_17 (by decide)
    · refine gq_aload_n (pc := 20) dX11_thingsIfSwapped_20 rfl ?_
      refine gq_getr (pc := 21) dX11_thingsIfSwapped_21 fl_X11_64_11 sh_0 rfl ?_
      refine gq_getr (pc := 24) dX11_thingsIfSwapped_24 fl_X11_250_10 sh_35 rfl ?_
      refine gq_iconst (pc := 27) dX11_thingsIfSwapped_27 kc_2 ?_
      refine gq_iload_n (pc := 28) dX11_thingsIfSwapped_28 rfl ?_
      refine gq_imul (pc := 29) dX11_thingsIfSwapped_29 ?_
      refine gq_iload (pc := 30) dX11_thingsIfSwapped_30 rfl ?_
      refine gq_iadd (pc := 32) dX11_thingsIfSwapped_32 ?_
      refine gq_aload_n (pc := 33) dX11_thingsIfSwapped_33 rfl ?_
      refine gq_getr (pc := 34) dX11_thingsIfSwapped_34 fl_X11_60_11 sh_0 rfl ?_
      refine gq_getr (pc := 37) dX11_thingsIfSwapped_37 fl_X11_250_10 sh_25 rfl ?_
      refine gq_iconst (pc := 40) dX11_thingsIfSwapped_40 kc_2 ?_
      refine gq_iload_n (pc := 41) dX11_thingsIfSwapped_41 rfl ?_
      refine gq_imul (pc := 42) dX11_thingsIfSwapped_42 ?_
      refine gq_iload (pc := 43) dX11_thingsIfSwapped_43 rfl ?_
      refine gq_iadd (pc := 45) dX11_thingsIfSwapped_45 ?_
      refine kq_ald6 (pw := 25) (pc := 46) (by decide) dX11_thingsIfSwapped_46 (w := j) (s := 1) (by rw [show (2 : Int32) * nI j = nI (2 * j) from pk_mul 2 j]; exact nI_add (2 * j) 1) (by omega) (by omega) ?_
      refine kt_ast6 (pc := 47) dX11_thingsIfSwapped_47 (w := i) (s := 1) (by rw [show (2 : Int32) * nI i = nI (2 * i) from pk_mul 2 i]; exact nI_add (2 * i) 1) (by omega) (by omega) ?_
      refine gq_aload_n (pc := 48) dX11_thingsIfSwapped_48 rfl ?_
      refine gq_getr (pc := 49) dX11_thingsIfSwapped_49 fl_X11_64_11 sh_0 rfl ?_
      refine gq_getr (pc := 52) dX11_thingsIfSwapped_52 fl_X11_250_10 sh_35 rfl ?_
      refine gq_iconst (pc := 55) dX11_thingsIfSwapped_55 kc_2 ?_
      refine gq_iload_n (pc := 56) dX11_thingsIfSwapped_56 rfl ?_
      refine gq_imul (pc := 57) dX11_thingsIfSwapped_57 ?_
      refine gq_iload (pc := 58) dX11_thingsIfSwapped_58 rfl ?_
      refine gq_iadd (pc := 60) dX11_thingsIfSwapped_60 ?_
      refine gq_aload_n (pc := 61) dX11_thingsIfSwapped_61 rfl ?_
      refine gq_getr (pc := 62) dX11_thingsIfSwapped_62 fl_X11_60_11 sh_0 rfl ?_
      refine gq_getr (pc := 65) dX11_thingsIfSwapped_65 fl_X11_250_10 sh_25 rfl ?_
      refine gq_iconst (pc := 68) dX11_thingsIfSwapped_68 kc_2 ?_
      refine gq_iload_n (pc := 69) dX11_thingsIfSwapped_69 rfl ?_
      refine gq_imul (pc := 70) dX11_thingsIfSwapped_70 ?_
      refine gq_iload (pc := 71) dX11_thingsIfSwapped_71 rfl ?_
      refine gq_iadd (pc := 73) dX11_thingsIfSwapped_73 ?_
      refine kq_ald6 (pw := 25) (pc := 74) (by decide) dX11_thingsIfSwapped_74 (w := i) (s := 1) (by rw [show (2 : Int32) * nI i = nI (2 * i) from pk_mul 2 i]; exact nI_add (2 * i) 1) (by omega) (by omega) ?_
      refine kt_ast6 (pc := 75) dX11_thingsIfSwapped_75 (w := j) (s := 1) (by rw [show (2 : Int32) * nI j = nI (2 * j) from pk_mul 2 j]; exact nI_add (2 * j) 1) (by omega) (by omega) ?_
      refine gq_iinc (pc := 76) (l' := [(4, _), (0, _), (1, _), (2, _), (3, _)]) dX11_thingsIfSwapped_76 rfl (by decide : (1 : Int32) + Int32.ofInt 1 = 2) (by decide) rfl ?_
      refine gq_goto (pc := 79) 14 dX11_thingsIfSwapped_79 (by decide) ?_
      refine gq_iload (pc := 14) dX11_thingsIfSwapped_14 rfl ?_
      refine gq_iconst (pc := 16) dX11_thingsIfSwapped_16 kc_1 ?_
      refine gq_ic_gt (pc := 17) 82 dX11_thingsIfSwapped_17 (by decide) (fun h_17 => ?_) (fun h_17 => ?_)
      · refine gq_tog (g := ge_k (ge_k g 35 (p_swap r i j) (p_x0 (g 35)) (g 44)) 25 r x hb) (by rw [← p_swap_c hij]) ?_
        refine gq_aload_n (pc := 82) dX11_thingsIfSwapped_82 rfl ?_
        refine gq_getr (pc := 83) dX11_thingsIfSwapped_83 fl_X11_64_11 sh_0 rfl ?_
        refine gq_iload_n (pc := 86) dX11_thingsIfSwapped_86 rfl ?_
        refine gq_rV1v (pc := 87) dX11_thingsIfSwapped_87 cv_X11_214 sh_35 (c_th (c := c) (V := V) hN (by omega) h rfl) ⟨by decide, by decide⟩ rfl rfl (Nat.le_of_ble_eq_true rfl) ?_
        refine gq_aload_n (pc := 90) dX11_thingsIfSwapped_90 rfl ?_
        refine gq_getr (pc := 91) dX11_thingsIfSwapped_91 fl_X11_64_11 sh_0 rfl ?_
        refine gq_rV0i (pc := 94) dX11_thingsIfSwapped_94 cv_X11_259 sh_35 (ge_sw (k_seenW_35 hV ho.2.1)) ⟨by decide, by decide⟩ rfl rfl (Nat.le_of_ble_eq_true rfl) ?_
        refine gq_rS1i (pc := 97) dX11_thingsIfSwapped_97 cs_X11_242 (k_bc hb1.1 hb1.2) ⟨by decide, by decide⟩ (Nat.le_of_ble_eq_true rfl) ?_
        exact gq_iret (pc := 100) rfl dX11_thingsIfSwapped_100 ⟨rfl, rfl⟩
      · exact absurd h_17 (by decide)
set_option maxHeartbeats 2000000 in
theorem c_swap_ok {n : Int32} {N E : Nat} (h : p_ok g (c + N) V r) (hN : n = nI N) (hN2 : N ≤ 30) (hE : E ≤ 8) (e2 : r 2 = nI E) : ge_N X ge_SH YX11_swap 7 [.ref (ge_ad X.1 0), .int n] (ge_k g 25 r x hb) (some (.int (p_wo r V N V).1)) (ge_k (gt_wo r V N g V) 25 r x hb) := by
  have hV := h.2.2.1
  have e3 := h.2.1
  have ho := p_ok_hrs (c := c) N h
  have hb1 := p_sb_in ho.1 hV
  refine gq_ofB (l := [(0, .ref (ge_ad X.1 0)), (1, .int n)]) (by decide) (Nat.le_of_ble_eq_true rfl) rfl ?_
  have inner : ∀ (e : Nat), e < V → ge_B X ge_SH YX11_swap 7 (fun v2 g2 => v2 = (some (.int (p_wo r V N V).1)) ∧ g2 = (ge_k (gt_wo r V N g V) 25 r x hb)) 102 [(4, .int (nI e)), (3, .int (p_wk r V N e (p_wo r V N e) (V - 1 - e)).2), (2, .int (p_wk r V N e (p_wo r V N e) (V - 1 - e)).1), (0, .ref (ge_ad X.1 0)), (1, .int n)] [] (ge_k (gt_wk r V N e (gt_wo r V N g e) (V - 1 - e)) 25 r x hb) → ∀ (m k : Nat), k + m = V - 1 - e → ge_B X ge_SH YX11_swap 7 (fun v2 g2 => v2 = (some (.int (p_wo r V N V).1)) ∧ g2 = (ge_k (gt_wo r V N g V) 25 r x hb)) 55 [(5, .int (nI (e + 1 + k))), (4, .int (nI e)), (3, .int (p_wk r V N e (p_wo r V N e) k).2), (2, .int (p_wk r V N e (p_wo r V N e) k).1), (0, .ref (ge_ad X.1 0)), (1, .int n)] [] (ge_k (gt_wk r V N e (gt_wo r V N g e) k) 25 r x hb) := by
    intro e he kont m
    induction m with
    | zero =>
      intro k hk
      obtain rfl : k = V - 1 - e := hk
      refine gq_iload (pc := 55) dX11_swap_55 rfl ?_
      refine gq_aload_n (pc := 57) dX11_swap_57 rfl ?_
      refine gq_getr (pc := 58) dX11_swap_58 fl_X11_60_11 sh_0 rfl ?_
      refine kq_get12 (pw := 25) (pc := 61) (by decide) dX11_swap_61 fl_X11_150_10 ?_
      rw [e3]
      refine gq_ic_ge (pc := 64) 102 dX11_swap_64 (by decide) (fun h_64 => ?_) (fun h_64 => ?_)
      · refine gq_sub [1, 2, 3, 4, 5] rfl ?_
        exact kont
      · exact absurd ((nI_leI (by omega) (by omega)).mpr (by omega)) h_64
    | succ m ih =>
      intro k hk
      have hn := ih (k + 1) (by omega)
      have hpl : (10 : Int32) * nI e + nI (e + 1 + k) = nI (10 * e + (e + 1 + k)) := by rw [show (10 : Int32) * nI e = nI (10 * e) from pk_mul 10 e, nI_add]
      have hg : p_ok (gt_wk r V N e (gt_wo r V N g e) k) (c + N) V r := p_ok_o (fun q hq => by rw [gt_wk_o (by omega), gt_wo_o (by omega)]) h
      refine gq_iload (pc := 55) dX11_swap_55 rfl ?_
      refine gq_aload_n (pc := 57) dX11_swap_57 rfl ?_
      refine gq_getr (pc := 58) dX11_swap_58 fl_X11_60_11 sh_0 rfl ?_
      refine kq_get12 (pw := 25) (pc := 61) (by decide) dX11_swap_61 fl_X11_150_10 ?_
      rw [e3]
      refine gq_ic_ge (pc := 64) 102 dX11_swap_64 (by decide) (fun h_64 => ?_) (fun h_64 => ?_)
      · exact absurd ((nI_leI (a := V) (b := e + 1 + k) (by omega) (by omega)).mp h_64) (by omega)
      · refine gq_aload_n (pc := 67) dX11_swap_67 rfl ?_
        refine gq_iload (pc := 68) dX11_swap_68 rfl ?_
        refine gq_iload (pc := 70) dX11_swap_70 rfl ?_
        refine gq_iload_n (pc := 72) dX11_swap_72 rfl ?_
        refine gq_rV3i (pc := 73) dX11_swap_73 cv_X11_268 sh_0 (c_swapped (c := c) (i := e) (j := e + 1 + k) (p_ok_swap hg e2 hE he (by omega) (by omega)) he (by omega) (by omega) hN (by omega)) ⟨by decide, by decide⟩ rfl rfl (Nat.le_of_ble_eq_true rfl) ?_
        refine gq_istore (pc := 76) (l' := [(6, _), (5, _), (4, _), (3, _), (2, _), (0, _), (1, _)]) dX11_swap_76 (by decide) rfl ?_
        refine gq_iload (pc := 78) dX11_swap_78 rfl ?_
        refine gq_iload_n (pc := 80) dX11_swap_80 rfl ?_
        refine gq_ic_le (pc := 81) 96 dX11_swap_81 (by decide) (fun h_81 => ?_) (fun h_81 => ?_)
        · refine gq_iinc (pc := 96) (l' := [(5, _), (6, _), (4, _), (3, _), (2, _), (0, _), (1, _)]) dX11_swap_96 rfl (show nI (e + 1 + k) + Int32.ofInt 1 = nI (e + 1 + (k + 1)) from ge_inc1 (e + 1 + k)) (by decide) rfl ?_
          refine gq_goto (pc := 99) 55 dX11_swap_99 (by decide) ?_
          rw [p_wk_n (Int32.not_lt.mpr h_81)] at hn
          refine gq_sub [0, 2, 3, 4, 5, 6] rfl ?_
          exact hn
        · refine gq_iload (pc := 84) dX11_swap_84 rfl ?_
          refine gq_istore_n (pc := 86) (l' := [(3, _), (6, _), (5, _), (4, _), (2, _), (0, _), (1, _)]) dX11_swap_86 (by decide) rfl ?_
          refine gq_bipush (pc := 87) dX11_swap_87 kb_10 ?_
          refine gq_iload (pc := 89) dX11_swap_89 rfl ?_
          refine gq_imul (pc := 91) dX11_swap_91 ?_
          refine gq_iload (pc := 92) dX11_swap_92 rfl ?_
          refine gq_iadd (pc := 94) dX11_swap_94 ?_
          rw [hpl]
          refine gq_istore_n (pc := 95) (l' := [(2, _), (3, _), (6, _), (5, _), (4, _), (0, _), (1, _)]) dX11_swap_95 (by decide) rfl ?_
          refine gq_iinc (pc := 96) (l' := [(5, _), (2, _), (3, _), (6, _), (4, _), (0, _), (1, _)]) dX11_swap_96 rfl (show nI (e + 1 + k) + Int32.ofInt 1 = nI (e + 1 + (k + 1)) from ge_inc1 (e + 1 + k)) (by decide) rfl ?_
          refine gq_goto (pc := 99) 55 dX11_swap_99 (by decide) ?_
          rw [p_wk_y (Int32.not_le.mp h_81)] at hn
          refine gq_sub [0, 4, 2, 1, 5, 6] rfl ?_
          exact hn
  have key : ∀ (m e : Nat), e + m = V → ge_B X ge_SH YX11_swap 7 (fun v2 g2 => v2 = (some (.int (p_wo r V N V).1)) ∧ g2 = (ge_k (gt_wo r V N g V) 25 r x hb)) 37 [(4, .int (nI e)), (3, .int (p_wo r V N e).2), (2, .int (p_wo r V N e).1), (0, .ref (ge_ad X.1 0)), (1, .int n)] [] (ge_k (gt_wo r V N g e) 25 r x hb) := by
    intro m
    induction m with
    | zero =>
      intro e he
      obtain rfl : e = V := he
      refine gq_iload (pc := 37) dX11_swap_37 rfl ?_
      refine gq_aload_n (pc := 39) dX11_swap_39 rfl ?_
      refine gq_getr (pc := 40) dX11_swap_40 fl_X11_60_11 sh_0 rfl ?_
      refine kq_get12 (pw := 25) (pc := 43) (by decide) dX11_swap_43 fl_X11_150_10 ?_
      rw [e3]
      refine gq_ic_ge (pc := 46) 108 dX11_swap_46 (by decide) (fun h_46 => ?_) (fun h_46 => ?_)
      · refine gq_iload_n (pc := 108) dX11_swap_108 rfl ?_
        exact gq_iret (pc := 109) rfl dX11_swap_109 ⟨rfl, rfl⟩
      · exact absurd (Int32.le_refl _) h_46
    | succ m ih =>
      intro e he
      refine gq_iload (pc := 37) dX11_swap_37 rfl ?_
      refine gq_aload_n (pc := 39) dX11_swap_39 rfl ?_
      refine gq_getr (pc := 40) dX11_swap_40 fl_X11_60_11 sh_0 rfl ?_
      refine kq_get12 (pw := 25) (pc := 43) (by decide) dX11_swap_43 fl_X11_150_10 ?_
      rw [e3]
      refine gq_ic_ge (pc := 46) 108 dX11_swap_46 (by decide) (fun h_46 => ?_) (fun h_46 => ?_)
      · exact absurd ((nI_leI (a := V) (b := e) (by omega) (by omega)).mp h_46) (by omega)
      · refine gq_iload (pc := 49) dX11_swap_49 rfl ?_
        refine gq_iconst (pc := 51) dX11_swap_51 kc_1 ?_
        refine gq_iadd (pc := 52) dX11_swap_52 ?_
        rw [nI_1]
        refine gq_istore (pc := 53) (l' := [(5, _), (4, _), (3, _), (2, _), (0, _), (1, _)]) dX11_swap_53 (by decide) rfl ?_
        refine gq_sub [0, 1, 2, 3, 4, 5] rfl ?_
        refine inner e (by omega) ?_ (V - 1 - e) 0 (by omega)
        refine gq_iinc (pc := 102) (l' := [(4, _), (3, _), (2, _), (0, _), (1, _)]) dX11_swap_102 rfl (ge_inc1 e) (by decide) rfl ?_
        refine gq_goto (pc := 105) 37 dX11_swap_105 (by decide) ?_
        refine gq_sub [0, 1, 2, 3, 4] rfl ?_
        exact ih (e + 1) (by omega)
  refine gq_iload_n (pc := 0) dX11_swap_0 rfl ?_
  refine gq_iconst (pc := 1) dX11_swap_1 kc_0 ?_
  refine gq_bipush (pc := 2) dX11_swap_2 kb_30 ?_
  refine gq_rS3i (pc := 4) dX11_swap_4 cs_X11_105 (c_outside _ _ _) ⟨by decide, by decide⟩ (Nat.le_of_ble_eq_true rfl) ?_
  refine gq_if_eq (pc := 7) 16 dX11_swap_7 (by decide) (fun h_7 => ?_) (fun h_7 => ?_)
  · refine gq_aload_n (pc := 16) dX11_swap_16 rfl ?_
    refine gq_iload_n (pc := 17) dX11_swap_17 rfl ?_
    refine gq_rV1v (pc := 18) dX11_swap_18 cv_X11_220 sh_0 (c_think (c := c) hN (by omega) h) ⟨by decide, by decide⟩ rfl rfl (Nat.le_of_ble_eq_true rfl) ?_
    refine gq_iconst (pc := 21) dX11_swap_21 kc_m1 ?_
    refine gq_istore_n (pc := 22) (l' := [(2, _), (0, _), (1, _)]) dX11_swap_22 (by decide) rfl ?_
    refine gq_aload_n (pc := 23) dX11_swap_23 rfl ?_
    refine gq_getr (pc := 24) dX11_swap_24 fl_X11_64_11 sh_0 rfl ?_
    refine gq_rV0i (pc := 27) dX11_swap_27 cv_X11_259 sh_35 (ge_sw (k_seenW_35 hV ho.2.1)) ⟨by decide, by decide⟩ rfl rfl (Nat.le_of_ble_eq_true rfl) ?_
    refine gq_rS1i (pc := 30) dX11_swap_30 cs_X11_242 (k_bc hb1.1 hb1.2) ⟨by decide, by decide⟩ (Nat.le_of_ble_eq_true rfl) ?_
    refine gq_istore_n (pc := 33) (l' := [(3, _), (2, _), (0, _), (1, _)]) dX11_swap_33 (by decide) rfl ?_
    refine gq_iconst (pc := 34) dX11_swap_34 kc_0 ?_
    refine gq_istore (pc := 35) (l' := [(4, _), (3, _), (2, _), (0, _), (1, _)]) dX11_swap_35 (by decide) rfl ?_
    refine gq_sub [0, 1, 2, 3, 4] rfl ?_
    exact key V 0 (by omega)
  · exact absurd (p_nt_0.mpr (p_in_le (N := 30) hN hN2 (by decide))) h_7
set_option maxHeartbeats 2000000 in
theorem m_swap_ok {n : Int32} {N E : Nat} (h : p_ok g (c + N) V r) (hN : n = nI N) (hN2 : N ≤ 30) (hE : E ≤ 8) (e2 : r 2 = nI E) : ge_N X ge_SH YX12_swap 46 [.ref (ge_ad X.1 76), .int n] (ge_m g r f) (some (.int (p_wo r V N V).1)) (ge_m (ge_row g 79 r) r (p_wof r V N f V)) := by
  have hV := h.2.2.1
  have e3 := h.2.1
  have ho := p_ok_hrs (c := c) N h
  have hb1 := p_sb_in ho.1 hV
  refine gq_ofB (l := [(0, .ref (ge_ad X.1 76)), (1, .int n)]) (by decide) (Nat.le_of_ble_eq_true rfl) rfl ?_
  have inner : ∀ (e : Nat), e < V → ge_B X ge_SH YX12_swap 46 (fun v2 g2 => v2 = (some (.int (p_wo r V N V).1)) ∧ g2 = (ge_m (ge_row g 79 r) r (p_wof r V N f V))) 121 [(4, .int (nI e)), (3, .int (p_wk r V N e (p_wo r V N e) (V - 1 - e)).2), (2, .int (p_wk r V N e (p_wo r V N e) (V - 1 - e)).1), (0, .ref (ge_ad X.1 76)), (1, .int n)] [] (ge_m (ge_row g 79 r) r (p_wkf r N e (p_wof r V N f e) (V - 1 - e))) → ∀ (m k : Nat), k + m = V - 1 - e → ge_B X ge_SH YX12_swap 46 (fun v2 g2 => v2 = (some (.int (p_wo r V N V).1)) ∧ g2 = (ge_m (ge_row g 79 r) r (p_wof r V N f V))) 57 [(5, .int (nI (e + 1 + k))), (4, .int (nI e)), (3, .int (p_wk r V N e (p_wo r V N e) k).2), (2, .int (p_wk r V N e (p_wo r V N e) k).1), (0, .ref (ge_ad X.1 76)), (1, .int n)] [] (ge_m (ge_row g 79 r) r (p_wkf r N e (p_wof r V N f e) k)) := by
    intro e he kont m
    induction m with
    | zero =>
      intro k hk
      obtain rfl : k = V - 1 - e := hk
      refine gq_iload (pc := 57) dX12_swap_57 rfl ?_
      refine gq_aload_n (pc := 59) dX12_swap_59 rfl ?_
      refine gq_getr (pc := 60) dX12_swap_60 fl_X12_7_12 sh_76 rfl ?_
      refine gq_iconst (pc := 63) dX12_swap_63 kc_3 ?_
      refine qm_ald (pc := 64) dX12_swap_64 kl_3 (by first | decide | omega) ?_
      rw [e3]
      refine gq_ic_ge (pc := 65) 121 dX12_swap_65 (by decide) (fun h_65 => ?_) (fun h_65 => ?_)
      · refine gq_sub [1, 2, 3, 4, 5] rfl ?_
        exact kont
      · exact absurd ((nI_leI (by omega) (by omega)).mpr (by omega)) h_65
    | succ m ih =>
      intro k hk
      have hn := ih (k + 1) (by omega)
      have hpl : (10 : Int32) * nI e + nI (e + 1 + k) = nI (10 * e + (e + 1 + k)) := by rw [show (10 : Int32) * nI e = nI (10 * e) from pk_mul 10 e, nI_add]
      refine gq_iload (pc := 57) dX12_swap_57 rfl ?_
      refine gq_aload_n (pc := 59) dX12_swap_59 rfl ?_
      refine gq_getr (pc := 60) dX12_swap_60 fl_X12_7_12 sh_76 rfl ?_
      refine gq_iconst (pc := 63) dX12_swap_63 kc_3 ?_
      refine qm_ald (pc := 64) dX12_swap_64 kl_3 (by first | decide | omega) ?_
      rw [e3]
      refine gq_ic_ge (pc := 65) 121 dX12_swap_65 (by decide) (fun h_65 => ?_) (fun h_65 => ?_)
      · exact absurd ((nI_leI (a := V) (b := e + 1 + k) (by omega) (by omega)).mp h_65) (by omega)
      · refine gq_aload_n (pc := 68) dX12_swap_68 rfl ?_
        refine gq_iload (pc := 69) dX12_swap_69 rfl ?_
        refine gq_iload (pc := 71) dX12_swap_71 rfl ?_
        refine gq_rV2v (pc := 73) dX12_swap_73 cv_X12_219 sh_76 (k_swaps rfl rfl (by omega) (by omega)) ⟨by decide, by decide⟩ rfl rfl (Nat.le_of_ble_eq_true rfl) ?_
        refine gq_aload_n (pc := 76) dX12_swap_76 rfl ?_
        refine gq_iload_n (pc := 77) dX12_swap_77 rfl ?_
        refine gq_rV1i (pc := 78) dX12_swap_78 cv_X12_213 sh_76 (m_sb (c := c) (r := p_swap r e (e + 1 + k)) (p_ok_swap h e2 hE he (by omega) (by omega)).1 hV (p_ok_swap h e2 hE he (by omega) (by omega)).2.1 hN (by omega)) ⟨by decide, by decide⟩ rfl rfl (Nat.le_of_ble_eq_true rfl) ?_
        refine gq_tog (g := ge_m (ge_row g 79 r) r (p_wkf r N e (p_wof r V N f e) (k + 1))) (by rw [ge_row_self]; rfl) ?_
        refine gq_istore (pc := 81) (l' := [(6, _), (5, _), (4, _), (3, _), (2, _), (0, _), (1, _)]) dX12_swap_81 (by decide) rfl ?_
        refine gq_iload (pc := 83) dX12_swap_83 rfl ?_
        refine gq_iload_n (pc := 85) dX12_swap_85 rfl ?_
        refine gq_ic_le (pc := 86) 100 dX12_swap_86 (by decide) (fun h_86 => ?_) (fun h_86 => ?_)
        · refine gq_iload_n (pc := 100) dX12_swap_100 rfl ?_
          refine gq_istore_n (pc := 101) (l' := [(2, _), (6, _), (5, _), (4, _), (3, _), (0, _), (1, _)]) dX12_swap_101 (by decide) rfl ?_
          refine gq_iload (pc := 102) dX12_swap_102 rfl ?_
          refine gq_iload_n (pc := 104) dX12_swap_104 rfl ?_
          refine gq_ic_le (pc := 105) 113 dX12_swap_105 (by decide) (fun h_105 => ?_) (fun h_105 => ?_)
          · refine gq_iload_n (pc := 113) dX12_swap_113 rfl ?_
            refine gq_istore_n (pc := 114) (l' := [(3, _), (2, _), (6, _), (5, _), (4, _), (0, _), (1, _)]) dX12_swap_114 (by decide) rfl ?_
            refine gq_iinc (pc := 115) (l' := [(5, _), (3, _), (2, _), (6, _), (4, _), (0, _), (1, _)]) dX12_swap_115 rfl (show nI (e + 1 + k) + Int32.ofInt 1 = nI (e + 1 + (k + 1)) from ge_inc1 (e + 1 + k)) (by decide) rfl ?_
            refine gq_goto (pc := 118) 57 dX12_swap_118 (by decide) ?_
            rw [p_wk_n (Int32.not_lt.mpr h_86)] at hn
            refine gq_sub [0, 4, 1, 2, 5, 6] rfl ?_
            exact hn
          · exact absurd h_86 h_105
        · refine gq_bipush (pc := 89) dX12_swap_89 kb_10 ?_
          refine gq_iload (pc := 91) dX12_swap_91 rfl ?_
          refine gq_imul (pc := 93) dX12_swap_93 ?_
          refine gq_iload (pc := 94) dX12_swap_94 rfl ?_
          refine gq_iadd (pc := 96) dX12_swap_96 ?_
          rw [hpl]
          refine gq_goto (pc := 97) 101 dX12_swap_97 (by decide) ?_
          refine gq_istore_n (pc := 101) (l' := [(2, _), (6, _), (5, _), (4, _), (3, _), (0, _), (1, _)]) dX12_swap_101 (by decide) rfl ?_
          refine gq_iload (pc := 102) dX12_swap_102 rfl ?_
          refine gq_iload_n (pc := 104) dX12_swap_104 rfl ?_
          refine gq_ic_le (pc := 105) 113 dX12_swap_105 (by decide) (fun h_105 => ?_) (fun h_105 => ?_)
          · exact absurd h_105 h_86
          · refine gq_iload (pc := 108) dX12_swap_108 rfl ?_
            refine gq_goto (pc := 110) 114 dX12_swap_110 (by decide) ?_
            refine gq_istore_n (pc := 114) (l' := [(3, _), (2, _), (6, _), (5, _), (4, _), (0, _), (1, _)]) dX12_swap_114 (by decide) rfl ?_
            refine gq_iinc (pc := 115) (l' := [(5, _), (3, _), (2, _), (6, _), (4, _), (0, _), (1, _)]) dX12_swap_115 rfl (show nI (e + 1 + k) + Int32.ofInt 1 = nI (e + 1 + (k + 1)) from ge_inc1 (e + 1 + k)) (by decide) rfl ?_
            refine gq_goto (pc := 118) 57 dX12_swap_118 (by decide) ?_
            rw [p_wk_y (Int32.not_le.mp h_86)] at hn
            refine gq_sub [0, 4, 1, 2, 5, 6] rfl ?_
            exact hn
  have key : ∀ (m e : Nat), e + m = V → ge_B X ge_SH YX12_swap 46 (fun v2 g2 => v2 = (some (.int (p_wo r V N V).1)) ∧ g2 = (ge_m (ge_row g 79 r) r (p_wof r V N f V))) 40 [(4, .int (nI e)), (3, .int (p_wo r V N e).2), (2, .int (p_wo r V N e).1), (0, .ref (ge_ad X.1 76)), (1, .int n)] [] (ge_m (ge_row g 79 r) r (p_wof r V N f e)) := by
    intro m
    induction m with
    | zero =>
      intro e he
      obtain rfl : e = V := he
      refine gq_iload (pc := 40) dX12_swap_40 rfl ?_
      refine gq_aload_n (pc := 42) dX12_swap_42 rfl ?_
      refine gq_getr (pc := 43) dX12_swap_43 fl_X12_7_12 sh_76 rfl ?_
      refine gq_iconst (pc := 46) dX12_swap_46 kc_3 ?_
      refine qm_ald (pc := 47) dX12_swap_47 kl_3 (by first | decide | omega) ?_
      rw [e3]
      refine gq_ic_ge (pc := 48) 127 dX12_swap_48 (by decide) (fun h_48 => ?_) (fun h_48 => ?_)
      · refine gq_iload_n (pc := 127) dX12_swap_127 rfl ?_
        exact gq_iret (pc := 128) rfl dX12_swap_128 ⟨rfl, rfl⟩
      · exact absurd (Int32.le_refl _) h_48
    | succ m ih =>
      intro e he
      refine gq_iload (pc := 40) dX12_swap_40 rfl ?_
      refine gq_aload_n (pc := 42) dX12_swap_42 rfl ?_
      refine gq_getr (pc := 43) dX12_swap_43 fl_X12_7_12 sh_76 rfl ?_
      refine gq_iconst (pc := 46) dX12_swap_46 kc_3 ?_
      refine qm_ald (pc := 47) dX12_swap_47 kl_3 (by first | decide | omega) ?_
      rw [e3]
      refine gq_ic_ge (pc := 48) 127 dX12_swap_48 (by decide) (fun h_48 => ?_) (fun h_48 => ?_)
      · exact absurd ((nI_leI (a := V) (b := e) (by omega) (by omega)).mp h_48) (by omega)
      · refine gq_iload (pc := 51) dX12_swap_51 rfl ?_
        refine gq_iconst (pc := 53) dX12_swap_53 kc_1 ?_
        refine gq_iadd (pc := 54) dX12_swap_54 ?_
        rw [nI_1]
        refine gq_istore (pc := 55) (l' := [(5, _), (4, _), (3, _), (2, _), (0, _), (1, _)]) dX12_swap_55 (by decide) rfl ?_
        refine gq_sub [0, 1, 2, 3, 4, 5] rfl ?_
        refine inner e (by omega) ?_ (V - 1 - e) 0 (by omega)
        refine gq_iinc (pc := 121) (l' := [(4, _), (3, _), (2, _), (0, _), (1, _)]) dX12_swap_121 rfl (ge_inc1 e) (by decide) rfl ?_
        refine gq_goto (pc := 124) 40 dX12_swap_124 (by decide) ?_
        refine gq_sub [0, 1, 2, 3, 4] rfl ?_
        exact ih (e + 1) (by omega)
  refine gq_iload_n (pc := 0) dX12_swap_0 rfl ?_
  refine gq_iconst (pc := 1) dX12_swap_1 kc_0 ?_
  refine gq_bipush (pc := 2) dX12_swap_2 kb_30 ?_
  refine gq_rS3i (pc := 4) dX12_swap_4 cs_X12_41 (k_in _ _ _) ⟨by decide, by decide⟩ (Nat.le_of_ble_eq_true rfl) ?_
  refine gq_if_ne (pc := 7) 17 dX12_swap_7 (by decide) (fun h_7 => ?_) (fun h_7 => ?_)
  · refine gq_iconst (pc := 17) dX12_swap_17 kc_m1 ?_
    refine gq_istore_n (pc := 18) (l' := [(2, _), (0, _), (1, _)]) dX12_swap_18 (by decide) rfl ?_
    refine gq_aload_n (pc := 19) dX12_swap_19 rfl ?_
    refine gq_aload_n (pc := 20) dX12_swap_20 rfl ?_
    refine gq_getr (pc := 21) dX12_swap_21 fl_X12_7_12 sh_76 rfl ?_
    refine gq_aload_n (pc := 24) dX12_swap_24 rfl ?_
    refine gq_getr (pc := 25) dX12_swap_25 fl_X12_16_12 sh_76 rfl ?_
    refine gq_rV2v (pc := 28) dX12_swap_28 cv_X12_170 sh_76 (k_move_to sh_79 (by decide) (by decide)) ⟨by decide, by decide⟩ rfl rfl (Nat.le_of_ble_eq_true rfl) ?_
    refine gq_aload_n (pc := 31) dX12_swap_31 rfl ?_
    refine gq_iload_n (pc := 32) dX12_swap_32 rfl ?_
    refine gq_rV1i (pc := 33) dX12_swap_33 cv_X12_213 sh_76 (m_sb (c := c) h.1 hV e3 hN (by omega)) ⟨by decide, by decide⟩ rfl rfl (Nat.le_of_ble_eq_true rfl) ?_
    refine gq_tog (g := ge_m (ge_row g 79 r) r (p_wof r V N f 0)) (by rw [ge_row_self]; rfl) ?_
    refine gq_istore_n (pc := 36) (l' := [(3, _), (2, _), (0, _), (1, _)]) dX12_swap_36 (by decide) rfl ?_
    refine gq_iconst (pc := 37) dX12_swap_37 kc_0 ?_
    refine gq_istore (pc := 38) (l' := [(4, _), (3, _), (2, _), (0, _), (1, _)]) dX12_swap_38 (by decide) rfl ?_
    refine gq_sub [0, 1, 2, 3, 4] rfl ?_
    exact key V 0 (by omega)
  · exact absurd h_7 (p_in_le (N := 30) hN hN2 (by decide))
set_option maxHeartbeats 400000 in
theorem c_swap_er {n : Int32} (h : p_in n 0 30 = 0) : ge_N X ge_SH YX11_swap 7 [.ref (ge_ad X.1 0), .int n] (ge_k g 25 r x hb) (some (.int (-1000000000 - 1))) (ge_k (ge_up g 75 1 (g 75 1 + 1)) 25 r x hb) := by
  refine gq_ofB (l := [(0, .ref (ge_ad X.1 0)), (1, .int n)]) (by decide) (Nat.le_of_ble_eq_true rfl) rfl ?_
  refine gq_iload_n (pc := 0) dX11_swap_0 rfl ?_
  refine gq_iconst (pc := 1) dX11_swap_1 kc_0 ?_
  refine gq_bipush (pc := 2) dX11_swap_2 kb_30 ?_
  refine gq_rS3i (pc := 4) dX11_swap_4 cs_X11_105 (c_outside _ _ _) ⟨by decide, by decide⟩ (Nat.le_of_ble_eq_true rfl) ?_
  refine gq_if_eq (pc := 7) 16 dX11_swap_7 (by decide) (fun h_7 => ?_) (fun h_7 => ?_)
  · exact absurd h (p_nt_0.mp h_7)
  · refine gq_aload_n (pc := 10) dX11_swap_10 rfl ?_
    refine gq_iconst (pc := 11) dX11_swap_11 kc_1 ?_
    refine gq_rV1i (pc := 12) dX11_swap_12 cv_X11_109 sh_0 (c_error kl_1 (by decide)) ⟨by decide, by decide⟩ rfl rfl (Nat.le_of_ble_eq_true rfl) ?_
    exact gq_iret (pc := 15) rfl dX11_swap_15 ⟨rfl, rfl⟩
set_option maxHeartbeats 400000 in
theorem m_swap_er {n : Int32} (h : p_in n 0 30 = 0) : ge_N X ge_SH YX12_swap 46 [.ref (ge_ad X.1 76), .int n] (ge_m g r f) (some (.int (-1000000001))) (ge_m (ge_up g 81 1 (g 81 1 + 1)) r f) := by
  refine gq_ofB (l := [(0, .ref (ge_ad X.1 76)), (1, .int n)]) (by decide) (Nat.le_of_ble_eq_true rfl) rfl ?_
  refine gq_iload_n (pc := 0) dX12_swap_0 rfl ?_
  refine gq_iconst (pc := 1) dX12_swap_1 kc_0 ?_
  refine gq_bipush (pc := 2) dX12_swap_2 kb_30 ?_
  refine gq_rS3i (pc := 4) dX12_swap_4 cs_X12_41 (k_in _ _ _) ⟨by decide, by decide⟩ (Nat.le_of_ble_eq_true rfl) ?_
  refine gq_if_ne (pc := 7) 17 dX12_swap_7 (by decide) (fun h_7 => ?_) (fun h_7 => ?_)
  · exact absurd h h_7
  · refine gq_aload_n (pc := 10) dX12_swap_10 rfl ?_
    refine gq_ldc (pc := 11) dX12_swap_11 kn_X12_53 ?_
    refine gq_rV1i (pc := 13) dX12_swap_13 cv_X12_54 sh_76 (k_errs (j := 1) (by decide) (by decide)) ⟨by decide, by decide⟩ rfl rfl (Nat.le_of_ble_eq_true rfl) ?_
    exact gq_iret (pc := 16) rfl dX12_swap_16 ⟨rfl, rfl⟩
end T6
