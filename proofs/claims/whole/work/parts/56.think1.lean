section T1
variable {X : ge_X} {y : ge_Y} {d : Nat} {Q : Option Value → ge_G → Prop} {l : List (Nat × Value)} {st : List Value} {g : ge_G} {r x hb r2 x2 hb2 r3 x3 hb3 f : Nat → Int32} {pc c V : Nat}
theorem kt_ald7 {i : Int32} {j : Nat} (dg : decode y.2.1 pc = .ok (.iaload, 1)) (hi : i = nI j) (hj : j < 6) (kk : ge_B X ge_SH y d Q (pc + 1) l (.int (p_o r2 j 2) :: st) (ge_k (ge_k g 35 r2 x2 hb2) 25 r x hb)) : ge_B X ge_SH y d Q pc l (.int i :: .ref (ge_ad X.1 42) :: st) (ge_k (ge_k g 35 r2 x2 hb2) 25 r x hb) := kq_aldo (by decide) dg sh_42 (by decide) hi hj (by decide) kk
theorem kt_ald8 {i : Int32} {j : Nat} (dg : decode y.2.1 pc = .ok (.iaload, 1)) (hi : i = nI j) (hj : j < 6) (kk : ge_B X ge_SH y d Q (pc + 1) l (.int (p_o r2 j 3) :: st) (ge_k (ge_k g 35 r2 x2 hb2) 25 r x hb)) : ge_B X ge_SH y d Q pc l (.int i :: .ref (ge_ad X.1 43) :: st) (ge_k (ge_k g 35 r2 x2 hb2) 25 r x hb) := kq_aldo (by decide) dg sh_43 (by decide) hi hj (by decide) kk
theorem kt_ald9 {i : Int32} {j : Nat} (dg : decode y.2.1 pc = .ok (.iaload, 1)) (hi : i = nI j) (hj : j < 6) (kk : ge_B X ge_SH y d Q (pc + 1) l (.int (hb2 j) :: st) (ge_k (ge_k g 35 r2 x2 hb2) 25 r x hb)) : ge_B X ge_SH y d Q pc l (.int i :: .ref (ge_ad X.1 44) :: st) (ge_k (ge_k g 35 r2 x2 hb2) 25 r x hb) := kq_aldo (by decide) dg sh_44 (by decide) hi hj (by decide) kk
theorem kt_ald6 {i : Int32} {w s : Nat} (dg : decode y.2.1 pc = .ok (.iaload, 1)) (hi : i = nI (2 * w + s)) (hw : w < 6) (hs : s < 2) (kk : ge_B X ge_SH y d Q (pc + 1) l (.int (p_o r2 w s) :: st) (ge_k (ge_k g 35 r2 x2 hb2) 25 r x hb)) : ge_B X ge_SH y d Q pc l (.int i :: .ref (ge_ad X.1 41) :: st) (ge_k (ge_k g 35 r2 x2 hb2) 25 r x hb) := by
  rw [← ge_k_comm] at kk ⊢
  exact kq_ald6 (pw := 35) (by decide) dg hi hw hs kk
theorem kt_ast6 {i v : Int32} {w s : Nat} (dg : decode y.2.1 pc = .ok (.iastore, 1)) (hi : i = nI (2 * w + s)) (hw : w < 6) (hs : s < 2) (kk : ge_B X ge_SH y d Q (pc + 1) l st (ge_k (ge_k g 35 (p_uo r2 w s v) x2 hb2) 25 r x hb)) : ge_B X ge_SH y d Q pc l (.int v :: .int i :: .ref (ge_ad X.1 41) :: st) (ge_k (ge_k g 35 r2 x2 hb2) 25 r x hb) := by
  rw [← ge_k_comm] at kk ⊢
  exact kq_ast6 (pw := 35) (by decide) dg hi hw hs kk
theorem kt_get15 {idx : Nat} (dg : decode y.2.1 pc = .ok (.getfield idx, 3)) (hf : ge_fl y.1.cls idx 10 15) (kk : ge_B X ge_SH y d Q (pc + 3) l (.int (x2 15) :: st) (ge_k (ge_k g 35 r2 x2 hb2) 25 r x hb)) : ge_B X ge_SH y d Q pc l (.ref (ge_ad X.1 35) :: st) (ge_k (ge_k g 35 r2 x2 hb2) 25 r x hb) := kq_geto (by decide) dg hf sh_35 rfl (by unfold ge_Z; omega) kk
theorem kt_get16 {idx : Nat} (dg : decode y.2.1 pc = .ok (.getfield idx, 3)) (hf : ge_fl y.1.cls idx 10 16) (kk : ge_B X ge_SH y d Q (pc + 3) l (.int (x2 16) :: st) (ge_k (ge_k g 35 r2 x2 hb2) 25 r x hb)) : ge_B X ge_SH y d Q pc l (.ref (ge_ad X.1 35) :: st) (ge_k (ge_k g 35 r2 x2 hb2) 25 r x hb) := kq_geto (by decide) dg hf sh_35 rfl (by unfold ge_Z; omega) kk
theorem kt_get17 {idx : Nat} (dg : decode y.2.1 pc = .ok (.getfield idx, 3)) (hf : ge_fl y.1.cls idx 10 17) (kk : ge_B X ge_SH y d Q (pc + 3) l (.int (x2 17) :: st) (ge_k (ge_k g 35 r2 x2 hb2) 25 r x hb)) : ge_B X ge_SH y d Q pc l (.ref (ge_ad X.1 35) :: st) (ge_k (ge_k g 35 r2 x2 hb2) 25 r x hb) := kq_geto (by decide) dg hf sh_35 rfl (by unfold ge_Z; omega) kk
theorem kt_put18 {idx : Nat} {v : Int32} (dg : decode y.2.1 pc = .ok (.putfield idx, 3)) (hf : ge_fp y.1.cls idx 10 18 .int) (kk : ge_B X ge_SH y d Q (pc + 3) l st (ge_k (ge_k g 35 r2 (upd x2 18 v) hb2) 25 r x hb)) : ge_B X ge_SH y d Q pc l (.int v :: .ref (ge_ad X.1 35) :: st) (ge_k (ge_k g 35 r2 x2 hb2) 25 r x hb) := by
  rw [← ge_k_comm] at kk ⊢
  exact kq_put18 (pw := 35) (by decide) dg hf kk
theorem ge_sw {y : ge_Y} {a : List Value} {v : Option Value} (h : ge_N X ge_SH y d a (ge_k (ge_k g 25 r x hb) 35 r2 x2 hb2) v (ge_k (ge_k g 25 r x hb) 35 r3 x3 hb3)) : ge_N X ge_SH y d a (ge_k (ge_k g 35 r2 x2 hb2) 25 r x hb) v (ge_k (ge_k g 35 r3 x3 hb3) 25 r x hb) := by
  rw [← ge_k_comm, ← ge_k_comm]
  exact h
theorem c_cp : ge_N X ge_SH YX10_copyFrom 1 [.ref (ge_ad X.1 35), .ref (ge_ad X.1 25)] (ge_k g 25 r x hb) none (ge_k (ge_k g 35 r (p_x0 (g 35)) (g 44)) 25 r x hb) := by
  rw [← ge_k_comm]
  exact k_copy_35_25 (ge_wr_k 25)
/-- one thought: a row, and hours -/
def ge_t1 (g : ge_G) (r2 : Nat → Int32) (V n : Nat) : ge_G := ge_k g 35 (p_hrs r2 n) (p_xh (p_x0 (g 35)) r2 V n) (p_hh (g 44) r2 V n)
def ge_ts (g : ge_G) (R : Nat → Nat → Int32) (V n : Nat) : Nat → ge_G
  | 0 => g
  | e + 1 => ge_t1 (ge_ts g R V n e) (R e) V n
theorem ge_t1_o {V n q : Nat} (h : q < 35 ∨ 44 < q) : ge_t1 g r2 V n q = g q := ge_k_o _ _ _ _ _ (by omega)
theorem ge_ts_o {R : Nat → Nat → Int32} {V n q : Nat} (h : q < 35 ∨ 44 < q) : ∀ e, ge_ts g R V n e q = g q := by
  intro e
  induction e with
  | zero => rfl
  | succ e ih => show ge_t1 (ge_ts g R V n e) (R e) V n q = g q; rw [ge_t1_o h, ih]
theorem c_lw_o {g' : ge_G} (h : ∀ q, q < 17 → g' q = g q) (hL : c_lw g r) : c_lw g' r := by
  obtain ⟨⟨L, a1, a2⟩, ⟨N, b1, b2⟩⟩ := hL
  refine ⟨⟨L, ?_, a2⟩, ⟨N, ?_, b2⟩⟩
  · unfold c_law c_code at *
    rw [h 13 (by decide), h (13 + 1) (by decide)]
    exact a1
  · unfold c_law c_code at *
    rw [h 15 (by decide), h (15 + 1) (by decide)]
    exact b1
theorem p_ok_o {g' : ge_G} (h : ∀ q, q < 17 → g' q = g q) (hL : p_ok g c V r) : p_ok g' c V r := ⟨hL.1, hL.2.1, hL.2.2.1, hL.2.2.2.1, c_lw_o h hL.2.2.2.2⟩
/-- the hours of a thought -/
theorem c_th {n : Int32} {N : Nat} (hN : n = nI N) (hN2 : N ≤ 100) (h : p_ok g (c + N) V r2) (hx : x2 18 = -1) : ge_N X ge_SH YX10_passHours 5 [.ref (ge_ad X.1 35), .int n] (ge_k (ge_k g 35 r2 x2 hb2) 25 r x hb) none (ge_k (ge_k g 35 (p_hrs r2 N) (p_xh x2 r2 V N) (p_hh hb2 r2 V N)) 25 r x hb) :=
  ge_sw (k_hours_35 (c := c) (V := V) hN hN2 (p_ok_k (by decide) h) hx)
theorem c_th1 {i : Nat} (h : p_ok g (c + (i + 1)) V r2) : ge_N X ge_SH YX10_passHours 5 [.ref (ge_ad X.1 35), .int 1] (ge_k (ge_t1 g r2 V i) 25 r x hb) none (ge_k (ge_t1 g r2 V (i + 1)) 25 r x hb) :=
  c_th (c := c) (V := V) (N := 1) rfl (by decide) (p_ok_hrs (c := c + 1) i (by rw [show c + 1 + i = c + (i + 1) by omega]; exact h)) (by rw [p_xh_18]; rfl)
theorem c_cp1 : ge_N X ge_SH YX10_copyFrom 1 [.ref (ge_ad X.1 35), .ref (ge_ad X.1 25)] (ge_k g 25 r x hb) none (ge_k (ge_t1 g r V 0) 25 r x hb) := c_cp
def p_bc (s : Int32) : Int32 :=
  let a := s - (ge_us s 1 &&& 1431655765)
  let b := (a &&& 858993459) + (ge_us a 2 &&& 858993459)
  let c := (b + ge_us b 4) &&& 252645135
  let d := c + ge_us c 8
  let e := d + ge_us d 16
  e &&& 63
theorem p_bc_pop : ∀ k, k < 1024 → p_bc (nI k) = nI (p_pop k) := by decide +kernel
end T1
section T2
variable {X : ge_X} {g : ge_G} {r x hb r2 x2 hb2 f : Nat → Int32} {c V : Nat}
set_option maxHeartbeats 400000 in
theorem k_bc0 (s : Int32) : ge_N X ge_SH YJ6_bitCount_0f7a4 0 [.int s] g (some (.int (p_bc s))) g := by
  refine gq_ofF (l := [(0, .int s)]) (by decide +kernel) (Nat.le_of_ble_eq_true rfl) rfl ?_
  refine gq_iload_n (pc := 0) dJ6_bitCount_0f7a4_0 rfl ?_
  refine gq_iload_n (pc := 1) dJ6_bitCount_0f7a4_1 rfl ?_
  refine gq_iconst (pc := 2) dJ6_bitCount_0f7a4_2 kc_1 ?_
  refine gq_iushr (pc := 3) dJ6_bitCount_0f7a4_3 ?_
  refine gq_ldcw (pc := 4) dJ6_bitCount_0f7a4_4 kn_J6_265 ?_
  refine gq_iand (pc := 7) dJ6_bitCount_0f7a4_7 ?_
  refine gq_isub (pc := 8) dJ6_bitCount_0f7a4_8 ?_
  refine gq_istore_n (pc := 9) (l' := [(0, _)]) dJ6_bitCount_0f7a4_9 (by decide) rfl ?_
  refine gq_iload_n (pc := 10) dJ6_bitCount_0f7a4_10 rfl ?_
  refine gq_ldcw (pc := 11) dJ6_bitCount_0f7a4_11 kn_J6_266 ?_
  refine gq_iand (pc := 14) dJ6_bitCount_0f7a4_14 ?_
  refine gq_iload_n (pc := 15) dJ6_bitCount_0f7a4_15 rfl ?_
  refine gq_iconst (pc := 16) dJ6_bitCount_0f7a4_16 kc_2 ?_
  refine gq_iushr (pc := 17) dJ6_bitCount_0f7a4_17 ?_
  refine gq_ldcw (pc := 18) dJ6_bitCount_0f7a4_18 kn_J6_266 ?_
  refine gq_iand (pc := 21) dJ6_bitCount_0f7a4_21 ?_
  refine gq_iadd (pc := 22) dJ6_bitCount_0f7a4_22 ?_
  refine gq_istore_n (pc := 23) (l' := [(0, _)]) dJ6_bitCount_0f7a4_23 (by decide) rfl ?_
  refine gq_iload_n (pc := 24) dJ6_bitCount_0f7a4_24 rfl ?_
  refine gq_iload_n (pc := 25) dJ6_bitCount_0f7a4_25 rfl ?_
  refine gq_iconst (pc := 26) dJ6_bitCount_0f7a4_26 kc_4 ?_
  refine gq_iushr (pc := 27) dJ6_bitCount_0f7a4_27 ?_
  refine gq_iadd (pc := 28) dJ6_bitCount_0f7a4_28 ?_
  refine gq_ldcw (pc := 29) dJ6_bitCount_0f7a4_29 kn_J6_267 ?_
  refine gq_iand (pc := 32) dJ6_bitCount_0f7a4_32 ?_
  refine gq_istore_n (pc := 33) (l' := [(0, _)]) dJ6_bitCount_0f7a4_33 (by decide) rfl ?_
  refine gq_iload_n (pc := 34) dJ6_bitCount_0f7a4_34 rfl ?_
  refine gq_iload_n (pc := 35) dJ6_bitCount_0f7a4_35 rfl ?_
  refine gq_bipush (pc := 36) dJ6_bitCount_0f7a4_36 kb_8 ?_
  refine gq_iushr (pc := 38) dJ6_bitCount_0f7a4_38 ?_
  refine gq_iadd (pc := 39) dJ6_bitCount_0f7a4_39 ?_
  refine gq_istore_n (pc := 40) (l' := [(0, _)]) dJ6_bitCount_0f7a4_40 (by decide) rfl ?_
  refine gq_iload_n (pc := 41) dJ6_bitCount_0f7a4_41 rfl ?_
  refine gq_iload_n (pc := 42) dJ6_bitCount_0f7a4_42 rfl ?_
  refine gq_bipush (pc := 43) dJ6_bitCount_0f7a4_43 kb_16 ?_
  refine gq_iushr (pc := 45) dJ6_bitCount_0f7a4_45 ?_
  refine gq_iadd (pc := 46) dJ6_bitCount_0f7a4_46 ?_
  refine gq_istore_n (pc := 47) (l' := [(0, _)]) dJ6_bitCount_0f7a4_47 (by decide) rfl ?_
  refine gq_iload_n (pc := 48) dJ6_bitCount_0f7a4_48 rfl ?_
  refine gq_bipush (pc := 49) dJ6_bitCount_0f7a4_49 kb_63 ?_
  refine gq_iand (pc := 51) dJ6_bitCount_0f7a4_51 ?_
  exact gq_iret (pc := 52) rfl dJ6_bitCount_0f7a4_52 ⟨rfl, rfl⟩
theorem k_bc {s : Int32} {k : Nat} (hs : s = nI k) (hk : k < 1024) : ge_N X ge_SH YJ6_bitCount_0f7a4 0 [.int s] g (some (.int (nI (p_pop k)))) g := by rw [← p_bc_pop k hk, hs]; exact k_bc0 (nI k)
theorem nI_o1 (i : Nat) : (1 : Int32) + nI i = nI (i + 1) := by rw [Int32.add_comm]; exact nI_1 i
def p_hp (n R : Nat) : Nat := if R = n then n else R + 1
def p_cv (n R : Nat) : Int32 := if R = n then 0 else nI (R + 1)
/-- what all bear, hour by hour -/
def p_bh (r : Nat → Int32) (V : Nat) (i : Nat) : Int32 := p_bs (p_hrs r (i + 1)) V
set_option maxHeartbeats 1000000 in
theorem c_check {n : Nat} (hn : g 62 1 = nI n) (hn2 : n ≤ 20) (h : p_ok g (c + 20) V r) : ge_N X ge_SH YX11_check 6 [.ref (ge_ad X.1 0)] (ge_k g 25 r x hb) (some (.int (p_cv n (p_ju (g 63) (p_bh r V) n 0)))) (ge_k (ge_t1 (ge_up g 62 1 0) r V (p_hp n (p_ju (g 63) (p_bh r V) n 0))) 25 r x hb) := by
  refine gq_ofB (l := [(0, .ref (ge_ad X.1 0))]) (by decide) (Nat.le_of_ble_eq_true rfl) rfl ?_
  have h1 : p_ok (ge_up g 62 1 0) (c + 20) V r := p_ok_o (fun q hq => ge_up_row _ _ _ (by omega)) h
  have key : ∀ (m i : Nat), i + m = n → p_ju (g 63) (p_bh r V) m i = p_ju (g 63) (p_bh r V) n 0 → ge_B X ge_SH YX11_check 6 (fun v2 g2 => v2 = (some (.int (p_cv n (p_ju (g 63) (p_bh r V) n 0)))) ∧ g2 = (ge_k (ge_t1 (ge_up g 62 1 0) r V (p_hp n (p_ju (g 63) (p_bh r V) n 0))) 25 r x hb)) 29 [(2, .int (nI i)), (0, .ref (ge_ad X.1 0)), (1, .int (nI n))] [] (ge_k (ge_t1 (ge_up g 62 1 0) r V (i)) 25 r x hb) := by
    intro m
    induction m with
    | zero =>
      intro i hi hR
      obtain rfl : i = n := hi
      have hR : i = p_ju (g 63) (p_bh r V) i 0 := hR
      refine gq_iload_n (pc := 29) dX11_check_29 rfl ?_
      refine gq_iload_n (pc := 30) dX11_check_30 rfl ?_
      refine gq_ic_ge (pc := 31) 71 dX11_check_31 (by decide) (fun h_31 => ?_) (fun h_31 => ?_)
      · refine gq_iconst (pc := 71) dX11_check_71 kc_0 ?_
        exact gq_iret (pc := 72) rfl dX11_check_72 ⟨by rw [← hR]; unfold p_cv; rw [if_pos rfl], by rw [← hR]; unfold p_hp; rw [if_pos rfl]⟩
      · exact absurd (Int32.le_refl _) h_31
    | succ m ih =>
      intro i hi hR
      have ho := p_ok_hrs (g := ge_up g 62 1 0) (c := c) (V := V) (r := r) (i + 1) (p_ok_weak h1 (by omega))
      refine gq_iload_n (pc := 29) dX11_check_29 rfl ?_
      refine gq_iload_n (pc := 30) dX11_check_30 rfl ?_
      refine gq_ic_ge (pc := 31) 71 dX11_check_31 (by decide) (fun h_31 => ?_) (fun h_31 => ?_)
      · exact absurd ((nI_leI (a := n) (b := i) (by omega) (by omega)).mp h_31) (by omega)
      · refine gq_aload_n (pc := 34) dX11_check_34 rfl ?_
        refine gq_getr (pc := 35) dX11_check_35 fl_X11_64_11 sh_0 rfl ?_
        refine gq_iconst (pc := 38) dX11_check_38 kc_1 ?_
        refine gq_rV1v (pc := 39) dX11_check_39 cv_X11_214 sh_35 (c_th1 (c := c) (p_ok_weak h1 (by omega))) ⟨by decide, by decide⟩ rfl rfl (Nat.le_of_ble_eq_true rfl) ?_
        refine gq_aload_n (pc := 42) dX11_check_42 rfl ?_
        refine gq_getr (pc := 43) dX11_check_43 fl_X11_64_11 sh_0 rfl ?_
        refine gq_rV0i (pc := 46) dX11_check_46 cv_X11_320 sh_35 (ge_sw (k_bearsW_35 ho.2.2.1 ho.2.1)) ⟨by decide, by decide⟩ rfl rfl (Nat.le_of_ble_eq_true rfl) ?_
        refine gq_aload_n (pc := 49) dX11_check_49 rfl ?_
        refine gq_getr (pc := 50) dX11_check_50 fl_X11_83_11 sh_0 rfl ?_
        refine gq_getr (pc := 53) dX11_check_53 fl_X11_297_7 sh_62 rfl ?_
        refine gq_iload_n (pc := 56) dX11_check_56 rfl ?_
        refine kq_aldo (pw := 25) (pc := 57) (by decide) dX11_check_57 sh_63 (by decide) rfl (by first | decide | omega) (by decide) ?_
        refine gq_ic_eq (pc := 58) 65 dX11_check_58 (by decide) (fun h_58 => ?_) (fun h_58 => ?_)
        · refine gq_iinc (pc := 65) (l' := [(2, _), (0, _), (1, _)]) dX11_check_65 rfl (ge_inc1 i) (by decide) rfl ?_
          refine gq_goto (pc := 68) 29 dX11_check_68 (by decide) ?_
          refine gq_sub [0, 1, 2] rfl ?_
          exact ih (i + 1) (by omega) (by rw [← hR]; exact (if_pos h_58.symm).symm)
        · have hR2 : p_ju (g 63) (p_bh r V) (m + 1) i = i := if_neg (fun q => h_58 q.symm)
          rw [hR2] at hR
          refine gq_iconst (pc := 61) dX11_check_61 kc_1 ?_
          refine gq_iload_n (pc := 62) dX11_check_62 rfl ?_
          refine gq_iadd (pc := 63) dX11_check_63 ?_
          exact gq_iret (pc := 64) rfl dX11_check_64 ⟨by rw [← hR]; unfold p_cv; rw [if_neg (by omega), nI_o1], by rw [← hR]; unfold p_hp; rw [if_neg (by omega)]; rfl⟩
  refine gq_aload_n (pc := 0) dX11_check_0 rfl ?_
  refine gq_getr (pc := 1) dX11_check_1 fl_X11_83_11 sh_0 rfl ?_
  refine kq_geto (pw := 25) (pc := 4) (by decide) dX11_check_4 fl_X11_182_7 sh_62 rfl (by unfold ge_Z; omega) ?_
  refine gq_istore_n (pc := 7) (l' := [(1, _), (0, _)]) dX11_check_7 (by decide) rfl ?_
  refine gq_aload_n (pc := 8) dX11_check_8 rfl ?_
  refine gq_getr (pc := 9) dX11_check_9 fl_X11_83_11 sh_0 rfl ?_
  refine gq_iconst (pc := 12) dX11_check_12 kc_0 ?_
  refine kq_puto (pw := 25) (pc := 13) (by decide) dX11_check_13 fp_X11_182_7 sh_62 rfl ?_
  refine gq_aload_n (pc := 16) dX11_check_16 rfl ?_
  refine gq_getr (pc := 17) dX11_check_17 fl_X11_64_11 sh_0 rfl ?_
  refine gq_aload_n (pc := 20) dX11_check_20 rfl ?_
  refine gq_getr (pc := 21) dX11_check_21 fl_X11_60_11 sh_0 rfl ?_
  refine gq_rV1v (pc := 24) dX11_check_24 cv_X11_223 sh_35 (c_cp1 (V := V)) ⟨by decide, by decide⟩ rfl rfl (Nat.le_of_ble_eq_true rfl) ?_
  refine gq_iconst (pc := 27) dX11_check_27 kc_0 ?_
  refine gq_istore_n (pc := 28) (l' := [(2, _), (1, _), (0, _)]) dX11_check_28 (by decide) rfl ?_
  refine gq_sub [0, 2, 1] rfl ?_
  rw [hn]
  exact key n 0 (by omega) rfl
theorem p_inv_u5 {z : Int32} (h : p_inv c r) : p_inv c (upd r 5 z) := by
  obtain ⟨h1, h2, ⟨q, hq, eq⟩, ⟨E, hE, e2, W, hW, e3, hv⟩, h5, h6, h7⟩ := h
  have po : ∀ w k, p_o (upd r 5 z) w k = p_o r w k := fun w k => by unfold p_o upd; rw [if_neg (by omega)]
  have pe : ∀ w k, p_e (upd r 5 z) w k = p_e r w k := fun w k => by unfold p_e upd; rw [if_neg (by omega)]
  have pl : ∀ i, i ≠ 5 → upd r 5 z i = r i := fun i hi => pk_un hi
  exact ⟨p_sz_of (pl _ (by omega)) h1, p_sz_of (pl _ (by omega)) h2, ⟨q, hq, (pl 0 (by decide)).trans eq⟩, ⟨E, hE, (pl 2 (by decide)).trans e2, W, hW, (pl 3 (by decide)).trans e3, fun w hw s hs => by rw [po]; exact hv w hw s hs⟩, fun e he => by rw [pe, pe, pe, pe]; exact h5 e he, fun w hw => by rw [po, po]; exact h6 w hw, fun t ht => by rw [pl _ (by omega)]; exact h7 t ht⟩
theorem p_hi_ones (h : p_inv c r) (hV : V ≤ 6) (e3 : r 3 = nI V) {i : Nat} (hi : 74 ≤ i) : ∀ w, w ≤ V → p_ones r w i = r i := by
  intro w
  induction w with
  | zero => intro _; rfl
  | succ w ih =>
    intro hw
    have a := p_inv_ones h hV e3 w (by omega)
    have hlt : nI w < p_ones r w 3 := by rw [p_lo_ones 3 (by omega), e3]; exact (nI_ltI (by omega) (by omega)).mpr (by omega)
    show p_one (p_ones r w) w i = r i
    rw [p_hi_one (by omega) (p_inv_eo a hlt (by omega) (by omega)) (p_inv_eo a hlt (by omega) (by omega)) hi, ih (by omega)]
theorem p_hi_hour (h : p_inv c r) {i : Nat} (hi : 74 ≤ i) : p_hour r i = r i := by
  obtain ⟨E, hE, e2, W, hW, e3, hv⟩ := h.2.2.2.1
  unfold p_hour
  rw [pk_un (by omega), e3, p_n_nI (by omega), p_hi_ones h hW e3 hi W (Nat.le_refl _)]
theorem p_hi_hrs {i : Nat} (hi : 74 ≤ i) : ∀ n, p_inv (c + n) r → p_hrs r n i = r i := by
  intro n
  induction n generalizing c with
  | zero => intro _; rfl
  | succ n ih =>
    intro h
    have h1 : p_inv (c + 1 + n) r := by rw [show c + 1 + n = c + (n + 1) by omega]; exact h
    show p_hour (p_hrs r n) i = r i
    rw [p_hi_hour (c := c + 1) (p_inv_hrs n h1) hi, ih (c := c + 1) h1]
theorem p_3_hour : p_hour r 3 = r 3 := by
  unfold p_hour
  rw [pk_un (by decide), p_lo_ones 3 (by omega)]
theorem p_3_hrs : ∀ n, p_hrs r n 3 = r 3 := by
  intro n
  induction n with
  | zero => rfl
  | succ n ih => show p_hour (p_hrs r n) 3 = r 3; rw [p_3_hour, ih]
set_option maxHeartbeats 1000000 in
theorem m_check {n : Nat} (hn : r 5 = nI n) (hn2 : n ≤ 20) (h : p_inv (c + 20) r) (hV : V ≤ 6) (e3 : r 3 = nI V) : ge_N X ge_SH YX12_check 45 [.ref (ge_ad X.1 76)] (ge_m g r f) (some (.int (p_cv n (p_ju (fun k => r (124 + k)) (p_bh (upd r 5 0) V) n 0)))) (ge_m (ge_row g 79 (upd r 5 0)) (upd r 5 0) (p_tb f (p_pt f (upd r 5 0) (p_hp n (p_ju (fun k => r (124 + k)) (p_bh (upd r 5 0) V) n 0))) (p_pb f (upd r 5 0) (p_hp n (p_ju (fun k => r (124 + k)) (p_bh (upd r 5 0) V) n 0))))) := by
  refine gq_ofB (l := [(0, .ref (ge_ad X.1 76))]) (by decide) (Nat.le_of_ble_eq_true rfl) rfl ?_
  have h1 : p_inv (c + 20) (upd r 5 0) := p_inv_u5 h
  have fin1 : ∀ i, i = n → i = p_ju (fun k => r (124 + k)) (p_bh (upd r 5 0) V) n 0 → ge_B X ge_SH YX12_check 45 (fun v2 g2 => v2 = (some (.int (p_cv n (p_ju (fun k => r (124 + k)) (p_bh (upd r 5 0) V) n 0)))) ∧ g2 = (ge_m (ge_row g 79 (upd r 5 0)) (upd r 5 0) (p_tb f (p_pt f (upd r 5 0) (p_hp n (p_ju (fun k => r (124 + k)) (p_bh (upd r 5 0) V) n 0))) (p_pb f (upd r 5 0) (p_hp n (p_ju (fun k => r (124 + k)) (p_bh (upd r 5 0) V) n 0)))))) 80 [(2, .int (nI i)), (3, .int 1), (0, .ref (ge_ad X.1 76)), (1, .int (nI n))] [] (ge_m (ge_row g 79 (upd r 5 0)) (p_hrs (upd r 5 0) (i)) (p_tb f (p_pt f (upd r 5 0) (i)) (p_pb f (upd r 5 0) (i)))) := by
    intro i hi hR
    subst hi
    refine gq_aload_n (pc := 80) dX12_check_80 rfl ?_
    refine gq_aload_n (pc := 81) dX12_check_81 rfl ?_
    refine gq_getr (pc := 82) dX12_check_82 fl_X12_16_12 sh_76 rfl ?_
    refine gq_aload_n (pc := 85) dX12_check_85 rfl ?_
    refine gq_getr (pc := 86) dX12_check_86 fl_X12_7_12 sh_76 rfl ?_
    refine gq_rV2v (pc := 89) dX12_check_89 cv_X12_170 sh_76 (k_move_back sh_79 (by decide) (by decide) (by decide)) ⟨by decide, by decide⟩ rfl rfl (Nat.le_of_ble_eq_true rfl) ?_
    refine gq_iload_n (pc := 92) dX12_check_92 rfl ?_
    refine gq_if_eq (pc := 93) 100 dX12_check_93 (by decide) (fun h_93 => ?_) (fun h_93 => ?_)
    · exact absurd h_93 (by decide)
    · refine gq_iconst (pc := 96) dX12_check_96 kc_0 ?_
      refine gq_goto (pc := 97) 103 dX12_check_97 (by decide) ?_
      exact gq_iret (pc := 103) rfl dX12_check_103 ⟨by rw [← hR]; unfold p_cv; rw [if_pos rfl], by rw [← hR, ge_row_self]; unfold p_hp; rw [if_pos rfl]⟩
  have fin0 : ∀ i, i < n → i = p_ju (fun k => r (124 + k)) (p_bh (upd r 5 0) V) n 0 → ge_B X ge_SH YX12_check 45 (fun v2 g2 => v2 = (some (.int (p_cv n (p_ju (fun k => r (124 + k)) (p_bh (upd r 5 0) V) n 0)))) ∧ g2 = (ge_m (ge_row g 79 (upd r 5 0)) (upd r 5 0) (p_tb f (p_pt f (upd r 5 0) (p_hp n (p_ju (fun k => r (124 + k)) (p_bh (upd r 5 0) V) n 0))) (p_pb f (upd r 5 0) (p_hp n (p_ju (fun k => r (124 + k)) (p_bh (upd r 5 0) V) n 0)))))) 80 [(2, .int (nI i)), (3, .int 0), (0, .ref (ge_ad X.1 76)), (1, .int (nI n))] [] (ge_m (ge_row g 79 (upd r 5 0)) (p_hrs (upd r 5 0) (i + 1)) (p_tb f (p_pt f (upd r 5 0) (i + 1)) (p_pb f (upd r 5 0) (i + 1)))) := by
    intro i hi hR
    refine gq_aload_n (pc := 80) dX12_check_80 rfl ?_
    refine gq_aload_n (pc := 81) dX12_check_81 rfl ?_
    refine gq_getr (pc := 82) dX12_check_82 fl_X12_16_12 sh_76 rfl ?_
    refine gq_aload_n (pc := 85) dX12_check_85 rfl ?_
    refine gq_getr (pc := 86) dX12_check_86 fl_X12_7_12 sh_76 rfl ?_
    refine gq_rV2v (pc := 89) dX12_check_89 cv_X12_170 sh_76 (k_move_back sh_79 (by decide) (by decide) (by decide)) ⟨by decide, by decide⟩ rfl rfl (Nat.le_of_ble_eq_true rfl) ?_
    refine gq_iload_n (pc := 92) dX12_check_92 rfl ?_
    refine gq_if_eq (pc := 93) 100 dX12_check_93 (by decide) (fun h_93 => ?_) (fun h_93 => ?_)
    · refine gq_iconst (pc := 100) dX12_check_100 kc_1 ?_
      refine gq_iload_n (pc := 101) dX12_check_101 rfl ?_
      refine gq_iadd (pc := 102) dX12_check_102 ?_
      exact gq_iret (pc := 103) rfl dX12_check_103 ⟨by rw [← hR]; unfold p_cv; rw [if_neg (by omega), nI_o1], by rw [← hR, ge_row_self]; unfold p_hp; rw [if_neg (by omega)]⟩
    · exact absurd h_93 (by decide)
  have key : ∀ (m i : Nat), i + m = n → p_ju (fun k => r (124 + k)) (p_bh (upd r 5 0) V) m i = p_ju (fun k => r (124 + k)) (p_bh (upd r 5 0) V) n 0 → ge_B X ge_SH YX12_check 45 (fun v2 g2 => v2 = (some (.int (p_cv n (p_ju (fun k => r (124 + k)) (p_bh (upd r 5 0) V) n 0)))) ∧ g2 = (ge_m (ge_row g 79 (upd r 5 0)) (upd r 5 0) (p_tb f (p_pt f (upd r 5 0) (p_hp n (p_ju (fun k => r (124 + k)) (p_bh (upd r 5 0) V) n 0))) (p_pb f (upd r 5 0) (p_hp n (p_ju (fun k => r (124 + k)) (p_bh (upd r 5 0) V) n 0)))))) 30 [(2, .int (nI i)), (3, .int 1), (0, .ref (ge_ad X.1 76)), (1, .int (nI n))] [] (ge_m (ge_row g 79 (upd r 5 0)) (p_hrs (upd r 5 0) (i)) (p_tb f (p_pt f (upd r 5 0) (i)) (p_pb f (upd r 5 0) (i)))) := by
    intro m
    induction m with
    | zero =>
      intro i hi hR
      refine gq_iload_n (pc := 30) dX12_check_30 rfl ?_
      refine gq_iload_n (pc := 31) dX12_check_31 rfl ?_
      refine gq_ic_ge (pc := 32) 80 dX12_check_32 (by decide) (fun h_32 => ?_) (fun h_32 => ?_)
      · refine gq_sub [0, 1, 2, 3] rfl ?_
        exact fin1 i hi hR
      · exact absurd ((nI_leI (by omega) (by omega)).mpr (by omega)) h_32
    | succ m ih =>
      intro i hi hR
      have a := p_inv_hrs (c := c + 20 - i) i (r := upd r 5 0) (by rw [show c + 20 - i + i = c + 20 by omega]; exact h1)
      have hw : p_hrs (upd r 5 0) (i + 1) (124 + i) = r (124 + i) := by rw [p_hi_hrs (c := c) (by omega) (i + 1) (p_inv_weak h1 (by omega)), pk_un (by omega)]
      have b3 : p_hrs (upd r 5 0) (i + 1) 3 = nI V := by rw [p_3_hrs]; exact e3
      refine gq_iload_n (pc := 30) dX12_check_30 rfl ?_
      refine gq_iload_n (pc := 31) dX12_check_31 rfl ?_
      refine gq_ic_ge (pc := 32) 80 dX12_check_32 (by decide) (fun h_32 => ?_) (fun h_32 => ?_)
      · exact absurd ((nI_leI (a := n) (b := i) (by omega) (by omega)).mp h_32) (by omega)
      · refine gq_iload_n (pc := 35) dX12_check_35 rfl ?_
        refine gq_if_eq (pc := 36) 80 dX12_check_36 (by decide) (fun h_36 => ?_) (fun h_36 => ?_)
        · exact absurd h_36 (by decide)
        · refine gq_aload_n (pc := 39) dX12_check_39 rfl ?_
          refine gq_rV0v (pc := 40) dX12_check_40 cv_X12_188 sh_76 (k_oneHour a) ⟨by decide, by decide⟩ rfl rfl (Nat.le_of_ble_eq_true rfl) ?_
          refine gq_tog (g := (ge_m (ge_row g 79 (upd r 5 0)) (p_hrs (upd r 5 0) (i + 1)) (p_tb f (p_pt f (upd r 5 0) (i + 1)) (p_pb f (upd r 5 0) (i + 1))))) (by rw [p_tb_tb]; rfl) ?_
          refine gq_aload_n (pc := 43) dX12_check_43 rfl ?_
          refine gq_rV0i (pc := 44) dX12_check_44 cv_X12_261 sh_76 (k_bearsOfAll (r := p_hrs (upd r 5 0) (i + 1)) hV b3) ⟨by decide, by decide⟩ rfl rfl (Nat.le_of_ble_eq_true rfl) ?_
          refine gq_aload_n (pc := 47) dX12_check_47 rfl ?_
          refine gq_getr (pc := 48) dX12_check_48 fl_X12_7_12 sh_76 rfl ?_
          refine gq_bipush (pc := 51) dX12_check_51 kb_124 ?_
          refine gq_iload_n (pc := 53) dX12_check_53 rfl ?_
          refine gq_iadd (pc := 54) dX12_check_54 ?_
          refine qm_ald (pc := 55) dX12_check_55 (nI_add 124 i) (by first | decide | omega) ?_
          rw [hw]
          refine gq_ic_ne (pc := 56) 63 dX12_check_56 (by decide) (fun h_56 => ?_) (fun h_56 => ?_)
          · have hR2 : p_ju (fun k => r (124 + k)) (p_bh (upd r 5 0) V) (m + 1) i = i := if_neg (fun q => h_56 q.symm)
            rw [hR2] at hR
            refine gq_iconst (pc := 63) dX12_check_63 kc_0 ?_
            refine gq_istore_n (pc := 64) (l' := [(3, _), (2, _), (0, _), (1, _)]) dX12_check_64 (by decide) rfl ?_
            refine gq_iload_n (pc := 65) dX12_check_65 rfl ?_
            refine gq_iload_n (pc := 66) dX12_check_66 rfl ?_
            refine gq_if_eq (pc := 67) 74 dX12_check_67 (by decide) (fun h_67 => ?_) (fun h_67 => ?_)
            · refine gq_iconst (pc := 74) dX12_check_74 kc_0 ?_
              refine gq_iadd (pc := 75) dX12_check_75 ?_
              refine gq_istore_n (pc := 76) (l' := [(2, _), (3, _), (0, _), (1, _)]) dX12_check_76 (by decide) rfl ?_
              refine gq_goto (pc := 77) 30 dX12_check_77 (by decide) ?_
              refine gq_sub [0, 1, 2, 3] rfl ?_
              rw [show nI i + (0 : Int32) = nI i from Int32.add_zero _]
              refine gq_iload_n (pc := 30) dX12_check_30 rfl ?_
              refine gq_iload_n (pc := 31) dX12_check_31 rfl ?_
              refine gq_ic_ge (pc := 32) 80 dX12_check_32 (by decide) (fun h_32 => ?_) (fun h_32 => ?_)
              · exact absurd ((nI_leI (a := n) (b := i) (by omega) (by omega)).mp h_32) (by omega)
              · refine gq_iload_n (pc := 35) dX12_check_35 rfl ?_
                refine gq_if_eq (pc := 36) 80 dX12_check_36 (by decide) (fun h_36 => ?_) (fun h_36 => ?_)
                · refine gq_sub [0, 1, 2, 3] rfl ?_
                  exact fin0 i (by omega) hR
                · exact absurd h_36 (by decide)
            · exact absurd h_67 (by decide)
          · refine gq_iconst (pc := 59) dX12_check_59 kc_1 ?_
            refine gq_goto (pc := 60) 64 dX12_check_60 (by decide) ?_
            refine gq_istore_n (pc := 64) (l' := [(3, _), (2, _), (0, _), (1, _)]) dX12_check_64 (by decide) rfl ?_
            refine gq_iload_n (pc := 65) dX12_check_65 rfl ?_
            refine gq_iload_n (pc := 66) dX12_check_66 rfl ?_
            refine gq_if_eq (pc := 67) 74 dX12_check_67 (by decide) (fun h_67 => ?_) (fun h_67 => ?_)
            · exact absurd h_67 (by decide)
            · refine gq_iconst (pc := 70) dX12_check_70 kc_1 ?_
              refine gq_goto (pc := 71) 75 dX12_check_71 (by decide) ?_
              refine gq_iadd (pc := 75) dX12_check_75 ?_
              refine gq_istore_n (pc := 76) (l' := [(2, _), (3, _), (0, _), (1, _)]) dX12_check_76 (by decide) rfl ?_
              refine gq_goto (pc := 77) 30 dX12_check_77 (by decide) ?_
              refine gq_sub [0, 1, 2, 3] rfl ?_
              rw [nI_1]
              exact ih (i + 1) (by omega) (by rw [← hR]; exact (if_pos h_56.symm).symm)
  refine gq_aload_n (pc := 0) dX12_check_0 rfl ?_
  refine gq_getr (pc := 1) dX12_check_1 fl_X12_7_12 sh_76 rfl ?_
  refine gq_iconst (pc := 4) dX12_check_4 kc_5 ?_
  refine qm_ald (pc := 5) dX12_check_5 kl_5 (by first | decide | omega) ?_
  refine gq_istore_n (pc := 6) (l' := [(1, _), (0, _)]) dX12_check_6 (by decide) rfl ?_
  refine gq_aload_n (pc := 7) dX12_check_7 rfl ?_
  refine gq_getr (pc := 8) dX12_check_8 fl_X12_7_12 sh_76 rfl ?_
  refine gq_iconst (pc := 11) dX12_check_11 kc_5 ?_
  refine gq_iconst (pc := 12) dX12_check_12 kc_0 ?_
  refine qm_ast (pc := 13) dX12_check_13 kl_5 (by first | decide | omega) ?_
  refine gq_aload_n (pc := 14) dX12_check_14 rfl ?_
  refine gq_aload_n (pc := 15) dX12_check_15 rfl ?_
  refine gq_getr (pc := 16) dX12_check_16 fl_X12_7_12 sh_76 rfl ?_
  refine gq_aload_n (pc := 19) dX12_check_19 rfl ?_
  refine gq_getr (pc := 20) dX12_check_20 fl_X12_16_12 sh_76 rfl ?_
  refine gq_rV2v (pc := 23) dX12_check_23 cv_X12_170 sh_76 (k_move_to sh_79 (by decide) (by decide)) ⟨by decide, by decide⟩ rfl rfl (Nat.le_of_ble_eq_true rfl) ?_
  refine gq_iconst (pc := 26) dX12_check_26 kc_0 ?_
  refine gq_istore_n (pc := 27) (l' := [(2, _), (1, _), (0, _)]) dX12_check_27 (by decide) rfl ?_
  refine gq_iconst (pc := 28) dX12_check_28 kc_1 ?_
  refine gq_istore_n (pc := 29) (l' := [(3, _), (2, _), (1, _), (0, _)]) dX12_check_29 (by decide) rfl ?_
  refine gq_sub [1, 0, 3, 2] rfl ?_
  rw [hn]
  refine gq_tog (g := (ge_m (ge_row g 79 (upd r 5 0)) (p_hrs (upd r 5 0) (0)) (p_tb f (p_pt f (upd r 5 0) (0)) (p_pb f (upd r 5 0) (0))))) (by rw [show p_pt f (upd r 5 0) 0 = f 15 from rfl, show p_pb f (upd r 5 0) 0 = f 16 from rfl, p_tb_self]; rfl) ?_
  exact key n 0 (by omega) rfl
end T2
