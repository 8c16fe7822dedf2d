section T12
variable {X : ge_X} {g : ge_G} {r r' x hb r2 x2 hb2 f : Nat → Int32} {c V E : Nat}
theorem p_alone_o {w e i : Nat} (h : p_ok g c V r) (he : e < 8) (hw : w < V) (hi : i < 50 ∨ 74 ≤ i) : p_alone r w e i = r i := by
  have hV := h.2.2.1
  have hn : p_n (r 3) = V := by rw [h.2.1, p_n_nI (by omega)]
  unfold p_alone p_come
  rw [if_neg (nI_pos (by omega)), hn]
  unfold p_uo
  rw [pk_un (by omega), pk_un (by omega), p_cms_at, if_neg (fun z => by omega)]
theorem p_okS_alone {w e : Nat} (h : p_ok g c V r) (e2 : r 2 = nI E) (hE : E ≤ 8) (hw : w < V) (he : e < E) : p_okS g c V (p_alone r w e) w e := by
  refine ⟨p_ok_alone h e2 hE hw he, ?_, ?_, hw, by omega⟩
  · unfold p_alone p_come
    rw [p_o_uo _ _ _ _ _ _ (by omega) (by omega), if_neg (by omega), if_neg (nI_pos (by omega)), p_o_uo _ _ _ _ _ _ (by omega) (by omega), if_pos ⟨rfl, rfl⟩]
  · unfold p_alone
    rw [p_o_uo _ _ _ _ _ _ (by omega) (by omega), if_pos ⟨rfl, rfl⟩]
def ge_tS (g : ge_G) (r : Nat → Int32) (w e V n : Nat) : ge_G := ge_k g 35 (p_hrsS (p_alone r w e) w e V n) (p_xhS (upd (p_x0 (g 35)) 18 (nI w)) (p_alone r w e) w e V n) (p_hhS (g 44) (p_alone r w e) w e V n)
theorem ge_tS_o {w e V n q : Nat} (h : q < 35 ∨ 44 < q) : ge_tS g r w e V n q = g q := ge_k_o _ _ _ _ _ (by omega)
theorem p_okS_o {g' : ge_G} {w e : Nat} (hg : ∀ q, q < 17 → g' q = g q) (h : p_okS g c V r w e) : p_okS g' c V r w e := ⟨p_ok_o hg h.1, h.2⟩
theorem c_tS1 {w e i : Nat} (h : p_okS g (c + (i + 1)) V (p_alone r w e) w e) : ge_N X ge_SH YX10_passHours 5 [.ref (ge_ad X.1 35), .int 1] (ge_k (ge_tS g r w e V i) 25 r x hb) none (ge_k (ge_tS g r w e V (i + 1)) 25 r x hb) :=
  ge_sw (k_hourS_35 (c := c) (V := V) (p_okS_o (fun q hq => ge_k_o _ _ _ _ _ (by omega)) (p_okS_hrs (c := c + 1) i (by rw [show c + 1 + i = c + (i + 1) by omega]; exact h))) (by rw [p_xhS_18]; rfl))
/-- the eye shows what the sheet tells -/
def p_so (N r : Nat → Int32) (n e : Nat) : Bool := decide (p_ju N (p_sE r e) n 0 = n)
def p_wsF (P : Nat → Bool) : Nat → Int32
  | 0 => 0
  | e + 1 => if P e = true then p_wsF P e ||| ((1 : Int32) <<< (nI e &&& 31)) else p_wsF P e
theorem p_wsF_y {P : Nat → Bool} {e : Nat} (h : P e = true) : p_wsF P (e + 1) = p_wsF P e ||| ((1 : Int32) <<< (nI e &&& 31)) := if_pos h
theorem p_wsF_n {P : Nat → Bool} {e : Nat} (h : ¬ P e = true) : p_wsF P (e + 1) = p_wsF P e := if_neg h
theorem p_wsF_in {P : Nat → Bool} : ∀ e, e ≤ 8 → ∃ k, k < 2 ^ e ∧ p_wsF P e = nI k := by
  intro e
  induction e with
  | zero => intro _; exact ⟨0, by decide, rfl⟩
  | succ e ih =>
    intro he
    obtain ⟨k, hk, ek⟩ := ih (by omega)
    have h2 : 2 ^ e < 2 ^ (e + 1) := Nat.pow_lt_pow_right (by decide) (by omega)
    by_cases h : P e = true
    · rw [p_wsF_y h, ek, p_bit_nI e (by omega), p_or_nI]
      exact ⟨k ||| 2 ^ e, Nat.or_lt_two_pow (by omega) h2, rfl⟩
    · rw [p_wsF_n h]
      exact ⟨k, by omega, ek⟩
theorem p_or_0 (a : Int32) : a ||| 0 = a := by
  apply Int32.toBitVec_inj.mp
  simp
def ge_wS (g : ge_G) (N r : Nat → Int32) (w V n : Nat) : Nat → ge_G
  | 0 => g
  | e + 1 => ge_tS (ge_wS g N r w V n e) r w e V (p_hp n (p_ju N (p_sE r e) n 0))
theorem ge_wS_o {N : Nat → Int32} {w n q : Nat} (h : q < 35 ∨ 44 < q) : ∀ e, ge_wS g N r w V n e q = g q := by
  intro e
  induction e with
  | zero => rfl
  | succ e ih => show ge_tS (ge_wS g N r w V n e) r w e V _ q = g q; rw [ge_tS_o h, ih]
set_option maxHeartbeats 1000000 in
theorem c_couldBe_0 {w e n : Nat} (h : p_ok g (c + 41) V r) (e2 : r 2 = nI E) (hE : E ≤ 8) (hw : w < V) (he : e < E) (hn2 : n ≤ 40) (hn : g 67 1 = nI n) : ge_N X ge_SH YX11_couldBe 6 [.ref (ge_ad X.1 0), .int (nI e), .ref (ge_ad X.1 67), .int (nI w)] (ge_k g 25 r x hb) (some (.int (p_b (p_so (g 68) r n e)))) (ge_k (ge_tS g r w e V (p_hp n (p_ju (g 68) (p_sE r e) n 0))) 25 r x hb) := by
  have hV := h.2.2.1
  have hS := p_okS_alone h e2 hE hw he
  have ao : ∀ i, (i < 50 ∨ 74 ≤ i) → p_alone r w e i = r i := fun i hi => p_alone_o h (by omega) hw hi
  refine gq_ofB (l := [(0, .ref (ge_ad X.1 0)), (1, .int (nI e)), (2, .ref (ge_ad X.1 67)), (3, .int (nI w))]) (by decide) (Nat.le_of_ble_eq_true rfl) rfl ?_
  have key : ∀ (m i : Nat), i + m = n → p_ju (g 68) (p_sE r e) m i = p_ju (g 68) (p_sE r e) n 0 → ge_B X ge_SH YX11_couldBe 6 (fun v2 g2 => v2 = (some (.int (p_b (p_so (g 68) r n e)))) ∧ g2 = (ge_k (ge_tS g r w e V (p_hp n (p_ju (g 68) (p_sE r e) n 0))) 25 r x hb)) 31 [(4, .int (nI i)), (0, .ref (ge_ad X.1 0)), (1, .int (nI e)), (2, .ref (ge_ad X.1 67)), (3, .int (nI w))] [] (ge_k (ge_tS g r w e V (i)) 25 r x hb) := by
    intro m
    induction m with
    | zero =>
      intro i hi hR
      obtain rfl : i = n := hi
      have hR : i = p_ju (g 68) (p_sE r e) i 0 := hR
      refine gq_iload (pc := 31) dX11_couldBe_31 rfl ?_
      refine gq_aload_n (pc := 33) dX11_couldBe_33 rfl ?_
      refine kq_geto (pw := 25) (pc := 34) (by decide) dX11_couldBe_34 fl_X11_182_7 sh_67 rfl (by unfold ge_Z; omega) ?_
      refine gq_tov (v := nI i) (by rw [ge_tS_o (by decide)]; exact hn.symm) ?_
      refine gq_ic_ge (pc := 37) 75 dX11_couldBe_37 (by decide) (fun h_37 => ?_) (fun h_37 => ?_)
      · refine gq_iconst (pc := 75) dX11_couldBe_75 kc_1 ?_
        exact gq_zret (pc := 76) rfl rfl dX11_couldBe_76 ⟨by unfold p_so; rw [← hR, decide_eq_true rfl]; rfl, by rw [← hR]; unfold p_hp; rw [if_pos rfl]⟩
      · exact absurd (Int32.le_refl _) h_37
    | succ m ih =>
      intro i hi hR
      have hS2 : p_okS g (c + (41 - i) + i) V (p_alone r w e) w e := by rw [show c + (41 - i) + i = c + 41 by omega]; exact hS
      have hat := p_hhS_at (hb := g 44) (n := i) (w := w) (e := e) (r := p_alone r w e) r (ao 0 (by omega)) (ao 6 (by omega)) (fun i hi => ao i (by omega)) (fun k hk => ao (18 + 4 * e + k) (by omega)) hS2
      refine gq_iload (pc := 31) dX11_couldBe_31 rfl ?_
      refine gq_aload_n (pc := 33) dX11_couldBe_33 rfl ?_
      refine kq_geto (pw := 25) (pc := 34) (by decide) dX11_couldBe_34 fl_X11_182_7 sh_67 rfl (by unfold ge_Z; omega) ?_
      refine gq_tov (v := nI n) (by rw [ge_tS_o (by decide)]; exact hn.symm) ?_
      refine gq_ic_ge (pc := 37) 75 dX11_couldBe_37 (by decide) (fun h_37 => ?_) (fun h_37 => ?_)
      · exact absurd ((nI_leI (a := n) (b := i) (by omega) (by omega)).mp h_37) (by omega)
      · refine gq_aload_n (pc := 40) dX11_couldBe_40 rfl ?_
        refine gq_getr (pc := 41) dX11_couldBe_41 fl_X11_64_11 sh_0 rfl ?_
        refine gq_iconst (pc := 44) dX11_couldBe_44 kc_1 ?_
        refine gq_rV1v (pc := 45) dX11_couldBe_45 cv_X11_214 sh_35 (c_tS1 (c := c + (40 - i)) (by rw [show c + (40 - i) + (i + 1) = c + 41 by omega]; exact hS)) ⟨by decide, by decide⟩ rfl rfl (Nat.le_of_ble_eq_true rfl) ?_
        refine gq_aload_n (pc := 48) dX11_couldBe_48 rfl ?_
        refine gq_getr (pc := 49) dX11_couldBe_49 fl_X11_64_11 sh_0 rfl ?_
        refine gq_getr (pc := 52) dX11_couldBe_52 fl_X11_229_10 sh_35 rfl ?_
        refine gq_iload_n (pc := 55) dX11_couldBe_55 rfl ?_
        refine kt_ald9 (pc := 56) dX11_couldBe_56 rfl (by first | decide | omega) ?_
        rw [hat]
        refine gq_aload_n (pc := 57) dX11_couldBe_57 rfl ?_
        refine gq_getr (pc := 58) dX11_couldBe_58 fl_X11_297_7 sh_67 rfl ?_
        refine gq_iload (pc := 61) dX11_couldBe_61 rfl ?_
        refine kq_aldo (pw := 25) (pc := 63) (by decide) dX11_couldBe_63 sh_68 (by decide) rfl (by first | decide | omega) (by decide) ?_
        refine gq_tov (v := g 68 i) (by first | (rw [ge_tS_o (by decide)]; done) | (rw [ge_k_o _ _ _ _ _ (by decide)]; done)) ?_
        refine gq_ic_eq (pc := 64) 69 dX11_couldBe_64 (by decide) (fun h_64 => ?_) (fun h_64 => ?_)
        · refine gq_iinc (pc := 69) (l' := [(4, _), (0, _), (1, _), (2, _), (3, _)]) dX11_couldBe_69 rfl (ge_inc1 i) (by decide) rfl ?_
          refine gq_goto (pc := 72) 31 dX11_couldBe_72 (by decide) ?_
          refine gq_sub [0, 1, 2, 3, 4] rfl ?_
          exact ih (i + 1) (by omega) (by rw [← hR]; exact (if_pos h_64.symm).symm)
        · have hR2 : p_ju (g 68) (p_sE r e) (m + 1) i = i := if_neg (fun q => h_64 q.symm)
          rw [hR2] at hR
          refine gq_iconst (pc := 67) dX11_couldBe_67 kc_0 ?_
          exact gq_zret (pc := 68) rfl rfl dX11_couldBe_68 ⟨by unfold p_so; rw [← hR, decide_eq_false (by omega)]; rfl, by rw [← hR]; unfold p_hp; rw [if_neg (by omega)]; rfl⟩
  refine gq_aload_n (pc := 0) dX11_couldBe_0 rfl ?_
  refine gq_getr (pc := 1) dX11_couldBe_1 fl_X11_64_11 sh_0 rfl ?_
  refine gq_aload_n (pc := 4) dX11_couldBe_4 rfl ?_
  refine gq_getr (pc := 5) dX11_couldBe_5 fl_X11_60_11 sh_0 rfl ?_
  refine gq_rV1v (pc := 8) dX11_couldBe_8 cv_X11_223 sh_35 c_cp ⟨by decide, by decide⟩ rfl rfl (Nat.le_of_ble_eq_true rfl) ?_
  refine gq_aload_n (pc := 11) dX11_couldBe_11 rfl ?_
  refine gq_getr (pc := 12) dX11_couldBe_12 fl_X11_64_11 sh_0 rfl ?_
  refine gq_iload_n (pc := 15) dX11_couldBe_15 rfl ?_
  refine gq_iload_n (pc := 16) dX11_couldBe_16 rfl ?_
  refine gq_rV2v (pc := 17) dX11_couldBe_17 cv_X11_271 sh_35 (c_fitA h rfl hw (by omega)) ⟨by decide, by decide⟩ rfl rfl (Nat.le_of_ble_eq_true rfl) ?_
  refine gq_aload_n (pc := 20) dX11_couldBe_20 rfl ?_
  refine gq_getr (pc := 21) dX11_couldBe_21 fl_X11_64_11 sh_0 rfl ?_
  refine gq_iload_n (pc := 24) dX11_couldBe_24 rfl ?_
  refine kt_put18 (pc := 25) dX11_couldBe_25 fp_X11_327_10 ?_
  refine gq_iconst (pc := 28) dX11_couldBe_28 kc_0 ?_
  refine gq_istore (pc := 29) (l' := [(4, _), (0, _), (1, _), (2, _), (3, _)]) dX11_couldBe_29 (by decide) rfl ?_
  refine gq_sub [0, 1, 2, 3, 4] rfl ?_
  exact key n 0 (by omega) rfl
set_option maxHeartbeats 1000000 in
theorem c_whose_ok0_0 {v : Int32} {w n : Nat} (h : p_ok g (c + 41) V r) (e2 : r 2 = nI E) (hE : E ≤ 8) (hv : v = nI w) (hw : w < V) (hn2 : n ≤ 40) (hn : g 67 1 = nI n) (hb0 : ¬ g 67 2 = 0) : ge_N X ge_SH YX11_whose 7 [.ref (ge_ad X.1 0), .int 0, .int v, .int 0] (ge_k g 25 r x hb) (some (.int (p_wsF (p_so (g 68) r n) E))) (ge_k (ge_wS g (g 68) r w V n (E)) 25 r x hb) := by
  have hV := h.2.2.1
  have e3 := h.2.1
  subst hv
  refine gq_ofB (l := [(0, .ref (ge_ad X.1 0)), (1, .int 0), (2, .int (nI w)), (3, .int 0)]) (by decide) (Nat.le_of_ble_eq_true rfl) rfl ?_
  have key : ∀ (m i : Nat), i + m = E → ge_B X ge_SH YX11_whose 7 (fun v2 g2 => v2 = (some (.int (p_wsF (p_so (g 68) r n) E))) ∧ g2 = (ge_k (ge_wS g (g 68) r w V n (E)) 25 r x hb)) 54 [(5, .int (nI i)), (4, .int (p_wsF (p_so (g 68) r n) i)), (0, .ref (ge_ad X.1 0)), (1, .int 0), (2, .int (nI w)), (3, .int 0)] [] (ge_k (ge_wS g (g 68) r w V n (i)) 25 r x hb) := by
    intro m
    induction m with
    | zero =>
      intro i hi
      obtain rfl : i = E := hi
      refine gq_iload (pc := 54) dX11_whose_54 rfl ?_
      refine gq_aload_n (pc := 56) dX11_whose_56 rfl ?_
      refine gq_getr (pc := 57) dX11_whose_57 fl_X11_60_11 sh_0 rfl ?_
      refine kq_get11 (pw := 25) (pc := 60) (by decide) dX11_whose_60 fl_X11_119_10 ?_
      rw [e2]
      refine gq_ic_ge (pc := 63) 97 dX11_whose_63 (by decide) (fun h_63 => ?_) (fun h_63 => ?_)
      · refine gq_iload_n (pc := 97) dX11_whose_97 rfl ?_
        refine gq_if_ne (pc := 98) 106 dX11_whose_98 (by decide) (fun h_98 => ?_) (fun h_98 => ?_)
        · exact absurd h_98 (by decide)
        · refine gq_iload (pc := 101) dX11_whose_101 rfl ?_
          refine gq_goto (pc := 103) 111 dX11_whose_103 (by decide) ?_
          exact gq_iret (pc := 111) rfl dX11_whose_111 ⟨rfl, rfl⟩
      · exact absurd (Int32.le_refl _) h_63
    | succ m ih =>
      intro i hi
      have hr : p_ok (ge_wS g (g 68) r w V n i) (c + 41) V r := p_ok_o (fun q hq => ge_wS_o (by omega) i) h
      have hn' : ge_wS g (g 68) r w V n i 67 1 = nI n := by rw [ge_wS_o (by decide)]; exact hn
      have hc := c_couldBe_0 (X := X) (x := x) (hb := hb) hr e2 hE hw (show i < E by omega) hn2 hn'
      have h2 : ge_wS g (g 68) r w V n i 68 = g 68 := ge_wS_o (by decide) i
      rw [h2] at hc
      have q := ih (i + 1) (by omega)
      have st1 : ge_tS (ge_wS g (g 68) r w V n i) r w i V (p_hp n (p_ju (g 68) (p_sE r i) n 0)) = ge_wS g (g 68) r w V n (i + 1) := rfl
      rw [st1] at hc
      refine gq_iload (pc := 54) dX11_whose_54 rfl ?_
      refine gq_aload_n (pc := 56) dX11_whose_56 rfl ?_
      refine gq_getr (pc := 57) dX11_whose_57 fl_X11_60_11 sh_0 rfl ?_
      refine kq_get11 (pw := 25) (pc := 60) (by decide) dX11_whose_60 fl_X11_119_10 ?_
      rw [e2]
      refine gq_ic_ge (pc := 63) 97 dX11_whose_63 (by decide) (fun h_63 => ?_) (fun h_63 => ?_)
      · exact absurd ((nI_leI (a := E) (b := i) (by omega) (by omega)).mp h_63) (by omega)
      · refine gq_aload_n (pc := 66) dX11_whose_66 rfl ?_
        refine gq_iload (pc := 67) dX11_whose_67 rfl ?_
        refine gq_aload_n (pc := 69) dX11_whose_69 rfl ?_
        refine gq_getr (pc := 70) dX11_whose_70 fl_X11_89_11 sh_0 rfl ?_
        refine gq_iload_n (pc := 73) dX11_whose_73 rfl ?_
        refine gq_aald (pc := 74) dX11_whose_74 sh_66 rfl kl_0 rfl (by decide) ?_
        refine gq_iload_n (pc := 75) dX11_whose_75 rfl ?_
        refine gq_rV3i (pc := 76) dX11_whose_76 cv_X11_238 sh_0 hc ⟨by decide, by decide⟩ rfl rfl (Nat.le_of_ble_eq_true rfl) ?_
        refine gq_if_eq (pc := 79) 91 dX11_whose_79 (by decide) (fun h_79 => ?_) (fun h_79 => ?_)
        · refine gq_iinc (pc := 91) (l' := [(5, _), (4, _), (0, _), (1, _), (2, _), (3, _)]) dX11_whose_91 rfl (ge_inc1 i) (by decide) rfl ?_
          refine gq_goto (pc := 94) 54 dX11_whose_94 (by decide) ?_
          rw [p_wsF_n (by rw [p_b_0.mp h_79]; decide)] at q
          refine gq_sub [0, 1, 2, 3, 4, 5] rfl ?_
          exact q
        · refine gq_iload (pc := 82) dX11_whose_82 rfl ?_
          refine gq_iconst (pc := 84) dX11_whose_84 kc_1 ?_
          refine gq_iload (pc := 85) dX11_whose_85 rfl ?_
          refine gq_ishl (pc := 87) dX11_whose_87 ?_
          refine gq_ior (pc := 88) dX11_whose_88 ?_
          refine gq_istore (pc := 89) (l' := [(4, _), (5, _), (0, _), (1, _), (2, _), (3, _)]) dX11_whose_89 (by decide) rfl ?_
          refine gq_iinc (pc := 91) (l' := [(5, _), (4, _), (0, _), (1, _), (2, _), (3, _)]) dX11_whose_91 rfl (ge_inc1 i) (by decide) rfl ?_
          refine gq_goto (pc := 94) 54 dX11_whose_94 (by decide) ?_
          rw [p_wsF_y (p_b_n.mp h_79)] at q
          refine gq_sub [0, 1, 2, 3, 4, 5] rfl ?_
          exact q
  refine gq_iload_n (pc := 0) dX11_whose_0 rfl ?_
  refine gq_rS1i (pc := 1) dX11_whose_1 cs_X11_232 (c_noSheet _) ⟨by decide, by decide⟩ (Nat.le_of_ble_eq_true rfl) ?_
  refine gq_if_ne (pc := 4) 24 dX11_whose_4 (by decide) (fun h_4 => ?_) (fun h_4 => ?_)
  · exact absurd (show p_nt (p_in 0 0 3) = 0 by decide) h_4
  · refine gq_aload_n (pc := 7) dX11_whose_7 rfl ?_
    refine gq_iload_n (pc := 8) dX11_whose_8 rfl ?_
    refine gq_rV1i (pc := 9) dX11_whose_9 cv_X11_157 sh_0 (c_noWearer _) ⟨by decide, by decide⟩ rfl rfl (Nat.le_of_ble_eq_true rfl) ?_
    refine gq_if_ne (pc := 12) 24 dX11_whose_12 (by decide) (fun h_12 => ?_) (fun h_12 => ?_)
    · exact absurd (p_nt_0.mpr (p_in_E rfl hw (by omega) e3)) h_12
    · refine gq_iload_n (pc := 15) dX11_whose_15 rfl ?_
      refine gq_iconst (pc := 16) dX11_whose_16 kc_0 ?_
      refine gq_iconst (pc := 17) dX11_whose_17 kc_1 ?_
      refine gq_rS3i (pc := 18) dX11_whose_18 cs_X11_105 (c_outside _ _ _) ⟨by decide, by decide⟩ (Nat.le_of_ble_eq_true rfl) ?_
      refine gq_if_eq (pc := 21) 30 dX11_whose_21 (by decide) (fun h_21 => ?_) (fun h_21 => ?_)
      · refine gq_aload_n (pc := 30) dX11_whose_30 rfl ?_
        refine gq_getr (pc := 31) dX11_whose_31 fl_X11_89_11 sh_0 rfl ?_
        refine gq_iload_n (pc := 34) dX11_whose_34 rfl ?_
        refine gq_aald (pc := 35) dX11_whose_35 sh_66 rfl kl_0 rfl (by decide) ?_
        refine kq_geto (pw := 25) (pc := 36) (by decide) dX11_whose_36 fl_X11_235_7 sh_67 rfl (by unfold ge_Z; omega) ?_
        refine gq_if_ne (pc := 39) 48 dX11_whose_39 (by decide) (fun h_39 => ?_) (fun h_39 => ?_)
        · refine gq_iconst (pc := 48) dX11_whose_48 kc_0 ?_
          refine gq_istore (pc := 49) (l' := [(4, _), (0, _), (1, _), (2, _), (3, _)]) dX11_whose_49 (by decide) rfl ?_
          refine gq_iconst (pc := 51) dX11_whose_51 kc_0 ?_
          refine gq_istore (pc := 52) (l' := [(5, _), (4, _), (0, _), (1, _), (2, _), (3, _)]) dX11_whose_52 (by decide) rfl ?_
          refine gq_sub [0, 1, 2, 3, 4, 5] rfl ?_
          exact key E 0 (by omega)
        · exact absurd h_39 hb0
      · exact absurd (show p_nt (p_in 0 0 1) = 0 by decide) h_21
set_option maxHeartbeats 1000000 in
theorem c_whose_ok1_0 {v : Int32} {w n : Nat} (h : p_ok g (c + 41) V r) (e2 : r 2 = nI E) (hE : E ≤ 8) (hv : v = nI w) (hw : w < V) (hn2 : n ≤ 40) (hn : g 67 1 = nI n) (hb0 : ¬ g 67 2 = 0) {k : Nat} (hk : p_wsF (p_so (g 68) r n) E = nI k) (hk2 : k < 1024) : ge_N X ge_SH YX11_whose 7 [.ref (ge_ad X.1 0), .int 0, .int v, .int 1] (ge_k g 25 r x hb) (some (.int (nI (p_pop k)))) (ge_k (ge_wS g (g 68) r w V n (E)) 25 r x hb) := by
  have hV := h.2.2.1
  have e3 := h.2.1
  subst hv
  refine gq_ofB (l := [(0, .ref (ge_ad X.1 0)), (1, .int 0), (2, .int (nI w)), (3, .int 1)]) (by decide) (Nat.le_of_ble_eq_true rfl) rfl ?_
  have key : ∀ (m i : Nat), i + m = E → ge_B X ge_SH YX11_whose 7 (fun v2 g2 => v2 = (some (.int (nI (p_pop k)))) ∧ g2 = (ge_k (ge_wS g (g 68) r w V n (E)) 25 r x hb)) 54 [(5, .int (nI i)), (4, .int (p_wsF (p_so (g 68) r n) i)), (0, .ref (ge_ad X.1 0)), (1, .int 0), (2, .int (nI w)), (3, .int 1)] [] (ge_k (ge_wS g (g 68) r w V n (i)) 25 r x hb) := by
    intro m
    induction m with
    | zero =>
      intro i hi
      obtain rfl : i = E := hi
      refine gq_iload (pc := 54) dX11_whose_54 rfl ?_
      refine gq_aload_n (pc := 56) dX11_whose_56 rfl ?_
      refine gq_getr (pc := 57) dX11_whose_57 fl_X11_60_11 sh_0 rfl ?_
      refine kq_get11 (pw := 25) (pc := 60) (by decide) dX11_whose_60 fl_X11_119_10 ?_
      rw [e2]
      refine gq_ic_ge (pc := 63) 97 dX11_whose_63 (by decide) (fun h_63 => ?_) (fun h_63 => ?_)
      · refine gq_iload_n (pc := 97) dX11_whose_97 rfl ?_
        refine gq_if_ne (pc := 98) 106 dX11_whose_98 (by decide) (fun h_98 => ?_) (fun h_98 => ?_)
        · refine gq_iload (pc := 106) dX11_whose_106 rfl ?_
          refine gq_rS1i (pc := 108) dX11_whose_108 cs_X11_242 (k_bc hk hk2) ⟨by decide, by decide⟩ (Nat.le_of_ble_eq_true rfl) ?_
          exact gq_iret (pc := 111) rfl dX11_whose_111 ⟨rfl, rfl⟩
        · exact absurd h_98 (by decide)
      · exact absurd (Int32.le_refl _) h_63
    | succ m ih =>
      intro i hi
      have hr : p_ok (ge_wS g (g 68) r w V n i) (c + 41) V r := p_ok_o (fun q hq => ge_wS_o (by omega) i) h
      have hn' : ge_wS g (g 68) r w V n i 67 1 = nI n := by rw [ge_wS_o (by decide)]; exact hn
      have hc := c_couldBe_0 (X := X) (x := x) (hb := hb) hr e2 hE hw (show i < E by omega) hn2 hn'
      have h2 : ge_wS g (g 68) r w V n i 68 = g 68 := ge_wS_o (by decide) i
      rw [h2] at hc
      have q := ih (i + 1) (by omega)
      have st1 : ge_tS (ge_wS g (g 68) r w V n i) r w i V (p_hp n (p_ju (g 68) (p_sE r i) n 0)) = ge_wS g (g 68) r w V n (i + 1) := rfl
      rw [st1] at hc
      refine gq_iload (pc := 54) dX11_whose_54 rfl ?_
      refine gq_aload_n (pc := 56) dX11_whose_56 rfl ?_
      refine gq_getr (pc := 57) dX11_whose_57 fl_X11_60_11 sh_0 rfl ?_
      refine kq_get11 (pw := 25) (pc := 60) (by decide) dX11_whose_60 fl_X11_119_10 ?_
      rw [e2]
      refine gq_ic_ge (pc := 63) 97 dX11_whose_63 (by decide) (fun h_63 => ?_) (fun h_63 => ?_)
      · exact absurd ((nI_leI (a := E) (b := i) (by omega) (by omega)).mp h_63) (by omega)
      · refine gq_aload_n (pc := 66) dX11_whose_66 rfl ?_
        refine gq_iload (pc := 67) dX11_whose_67 rfl ?_
        refine gq_aload_n (pc := 69) dX11_whose_69 rfl ?_
        refine gq_getr (pc := 70) dX11_whose_70 fl_X11_89_11 sh_0 rfl ?_
        refine gq_iload_n (pc := 73) dX11_whose_73 rfl ?_
        refine gq_aald (pc := 74) dX11_whose_74 sh_66 rfl kl_0 rfl (by decide) ?_
        refine gq_iload_n (pc := 75) dX11_whose_75 rfl ?_
        refine gq_rV3i (pc := 76) dX11_whose_76 cv_X11_238 sh_0 hc ⟨by decide, by decide⟩ rfl rfl (Nat.le_of_ble_eq_true rfl) ?_
        refine gq_if_eq (pc := 79) 91 dX11_whose_79 (by decide) (fun h_79 => ?_) (fun h_79 => ?_)
        · refine gq_iinc (pc := 91) (l' := [(5, _), (4, _), (0, _), (1, _), (2, _), (3, _)]) dX11_whose_91 rfl (ge_inc1 i) (by decide) rfl ?_
          refine gq_goto (pc := 94) 54 dX11_whose_94 (by decide) ?_
          rw [p_wsF_n (by rw [p_b_0.mp h_79]; decide)] at q
          refine gq_sub [0, 1, 2, 3, 4, 5] rfl ?_
          exact q
        · refine gq_iload (pc := 82) dX11_whose_82 rfl ?_
          refine gq_iconst (pc := 84) dX11_whose_84 kc_1 ?_
          refine gq_iload (pc := 85) dX11_whose_85 rfl ?_
          refine gq_ishl (pc := 87) dX11_whose_87 ?_
          refine gq_ior (pc := 88) dX11_whose_88 ?_
          refine gq_istore (pc := 89) (l' := [(4, _), (5, _), (0, _), (1, _), (2, _), (3, _)]) dX11_whose_89 (by decide) rfl ?_
          refine gq_iinc (pc := 91) (l' := [(5, _), (4, _), (0, _), (1, _), (2, _), (3, _)]) dX11_whose_91 rfl (ge_inc1 i) (by decide) rfl ?_
          refine gq_goto (pc := 94) 54 dX11_whose_94 (by decide) ?_
          rw [p_wsF_y (p_b_n.mp h_79)] at q
          refine gq_sub [0, 1, 2, 3, 4, 5] rfl ?_
          exact q
  refine gq_iload_n (pc := 0) dX11_whose_0 rfl ?_
  refine gq_rS1i (pc := 1) dX11_whose_1 cs_X11_232 (c_noSheet _) ⟨by decide, by decide⟩ (Nat.le_of_ble_eq_true rfl) ?_
  refine gq_if_ne (pc := 4) 24 dX11_whose_4 (by decide) (fun h_4 => ?_) (fun h_4 => ?_)
  · exact absurd (show p_nt (p_in 0 0 3) = 0 by decide) h_4
  · refine gq_aload_n (pc := 7) dX11_whose_7 rfl ?_
    refine gq_iload_n (pc := 8) dX11_whose_8 rfl ?_
    refine gq_rV1i (pc := 9) dX11_whose_9 cv_X11_157 sh_0 (c_noWearer _) ⟨by decide, by decide⟩ rfl rfl (Nat.le_of_ble_eq_true rfl) ?_
    refine gq_if_ne (pc := 12) 24 dX11_whose_12 (by decide) (fun h_12 => ?_) (fun h_12 => ?_)
    · exact absurd (p_nt_0.mpr (p_in_E rfl hw (by omega) e3)) h_12
    · refine gq_iload_n (pc := 15) dX11_whose_15 rfl ?_
      refine gq_iconst (pc := 16) dX11_whose_16 kc_0 ?_
      refine gq_iconst (pc := 17) dX11_whose_17 kc_1 ?_
      refine gq_rS3i (pc := 18) dX11_whose_18 cs_X11_105 (c_outside _ _ _) ⟨by decide, by decide⟩ (Nat.le_of_ble_eq_true rfl) ?_
      refine gq_if_eq (pc := 21) 30 dX11_whose_21 (by decide) (fun h_21 => ?_) (fun h_21 => ?_)
      · refine gq_aload_n (pc := 30) dX11_whose_30 rfl ?_
        refine gq_getr (pc := 31) dX11_whose_31 fl_X11_89_11 sh_0 rfl ?_
        refine gq_iload_n (pc := 34) dX11_whose_34 rfl ?_
        refine gq_aald (pc := 35) dX11_whose_35 sh_66 rfl kl_0 rfl (by decide) ?_
        refine kq_geto (pw := 25) (pc := 36) (by decide) dX11_whose_36 fl_X11_235_7 sh_67 rfl (by unfold ge_Z; omega) ?_
        refine gq_if_ne (pc := 39) 48 dX11_whose_39 (by decide) (fun h_39 => ?_) (fun h_39 => ?_)
        · refine gq_iconst (pc := 48) dX11_whose_48 kc_0 ?_
          refine gq_istore (pc := 49) (l' := [(4, _), (0, _), (1, _), (2, _), (3, _)]) dX11_whose_49 (by decide) rfl ?_
          refine gq_iconst (pc := 51) dX11_whose_51 kc_0 ?_
          refine gq_istore (pc := 52) (l' := [(5, _), (4, _), (0, _), (1, _), (2, _), (3, _)]) dX11_whose_52 (by decide) rfl ?_
          refine gq_sub [0, 1, 2, 3, 4, 5] rfl ?_
          exact key E 0 (by omega)
        · exact absurd h_39 hb0
      · exact absurd (show p_nt (p_in 1 0 1) = 0 by decide) h_21
set_option maxHeartbeats 400000 in
theorem c_whose_no_0 {v a : Int32} (h1 : ¬ p_in v 0 (r 3 - 1) = 0) (h2 : ¬ p_in a 0 1 = 0) (h : g 67 2 = 0) : ge_N X ge_SH YX11_whose 7 [.ref (ge_ad X.1 0), .int 0, .int v, .int a] (ge_k g 25 r x hb) (some (.int (-1000000000 - 2))) (ge_k (ge_up g 75 2 (g 75 2 + 1)) 25 r x hb) := by
  refine gq_ofB (l := [(0, .ref (ge_ad X.1 0)), (1, .int 0), (2, .int v), (3, .int a)]) (by decide) (Nat.le_of_ble_eq_true rfl) rfl ?_
  refine gq_iload_n (pc := 0) dX11_whose_0 rfl ?_
  refine gq_rS1i (pc := 1) dX11_whose_1 cs_X11_232 (c_noSheet _) ⟨by decide, by decide⟩ (Nat.le_of_ble_eq_true rfl) ?_
  refine gq_if_ne (pc := 4) 24 dX11_whose_4 (by decide) (fun h_4 => ?_) (fun h_4 => ?_)
  · exact absurd (show p_nt (p_in 0 0 3) = 0 by decide) h_4
  · refine gq_aload_n (pc := 7) dX11_whose_7 rfl ?_
    refine gq_iload_n (pc := 8) dX11_whose_8 rfl ?_
    refine gq_rV1i (pc := 9) dX11_whose_9 cv_X11_157 sh_0 (c_noWearer _) ⟨by decide, by decide⟩ rfl rfl (Nat.le_of_ble_eq_true rfl) ?_
    refine gq_if_ne (pc := 12) 24 dX11_whose_12 (by decide) (fun h_12 => ?_) (fun h_12 => ?_)
    · exact absurd (p_nt_0.mpr h1) h_12
    · refine gq_iload_n (pc := 15) dX11_whose_15 rfl ?_
      refine gq_iconst (pc := 16) dX11_whose_16 kc_0 ?_
      refine gq_iconst (pc := 17) dX11_whose_17 kc_1 ?_
      refine gq_rS3i (pc := 18) dX11_whose_18 cs_X11_105 (c_outside _ _ _) ⟨by decide, by decide⟩ (Nat.le_of_ble_eq_true rfl) ?_
      refine gq_if_eq (pc := 21) 30 dX11_whose_21 (by decide) (fun h_21 => ?_) (fun h_21 => ?_)
      · refine gq_aload_n (pc := 30) dX11_whose_30 rfl ?_
        refine gq_getr (pc := 31) dX11_whose_31 fl_X11_89_11 sh_0 rfl ?_
        refine gq_iload_n (pc := 34) dX11_whose_34 rfl ?_
        refine gq_aald (pc := 35) dX11_whose_35 sh_66 rfl kl_0 rfl (by decide) ?_
        refine kq_geto (pw := 25) (pc := 36) (by decide) dX11_whose_36 fl_X11_235_7 sh_67 rfl (by unfold ge_Z; omega) ?_
        refine gq_if_ne (pc := 39) 48 dX11_whose_39 (by decide) (fun h_39 => ?_) (fun h_39 => ?_)
        · exact absurd h h_39
        · refine gq_aload_n (pc := 42) dX11_whose_42 rfl ?_
          refine gq_iconst (pc := 43) dX11_whose_43 kc_2 ?_
          refine gq_rV1i (pc := 44) dX11_whose_44 cv_X11_109 sh_0 (c_error kl_2 (by decide)) ⟨by decide, by decide⟩ rfl rfl (Nat.le_of_ble_eq_true rfl) ?_
          exact gq_iret (pc := 47) rfl dX11_whose_47 ⟨rfl, rfl⟩
      · exact absurd (p_nt_0.mpr h2) h_21
set_option maxHeartbeats 1000000 in
theorem c_couldBe_1 {w e n : Nat} (h : p_ok g (c + 41) V r) (e2 : r 2 = nI E) (hE : E ≤ 8) (hw : w < V) (he : e < E) (hn2 : n ≤ 40) (hn : g 69 1 = nI n) : ge_N X ge_SH YX11_couldBe 6 [.ref (ge_ad X.1 0), .int (nI e), .ref (ge_ad X.1 69), .int (nI w)] (ge_k g 25 r x hb) (some (.int (p_b (p_so (g 70) r n e)))) (ge_k (ge_tS g r w e V (p_hp n (p_ju (g 70) (p_sE r e) n 0))) 25 r x hb) := by
  have hV := h.2.2.1
  have hS := p_okS_alone h e2 hE hw he
  have ao : ∀ i, (i < 50 ∨ 74 ≤ i) → p_alone r w e i = r i := fun i hi => p_alone_o h (by omega) hw hi
  refine gq_ofB (l := [(0, .ref (ge_ad X.1 0)), (1, .int (nI e)), (2, .ref (ge_ad X.1 69)), (3, .int (nI w))]) (by decide) (Nat.le_of_ble_eq_true rfl) rfl ?_
  have key : ∀ (m i : Nat), i + m = n → p_ju (g 70) (p_sE r e) m i = p_ju (g 70) (p_sE r e) n 0 → ge_B X ge_SH YX11_couldBe 6 (fun v2 g2 => v2 = (some (.int (p_b (p_so (g 70) r n e)))) ∧ g2 = (ge_k (ge_tS g r w e V (p_hp n (p_ju (g 70) (p_sE r e) n 0))) 25 r x hb)) 31 [(4, .int (nI i)), (0, .ref (ge_ad X.1 0)), (1, .int (nI e)), (2, .ref (ge_ad X.1 69)), (3, .int (nI w))] [] (ge_k (ge_tS g r w e V (i)) 25 r x hb) := by
    intro m
    induction m with
    | zero =>
      intro i hi hR
      obtain rfl : i = n := hi
      have hR : i = p_ju (g 70) (p_sE r e) i 0 := hR
      refine gq_iload (pc := 31) dX11_couldBe_31 rfl ?_
      refine gq_aload_n (pc := 33) dX11_couldBe_33 rfl ?_
      refine kq_geto (pw := 25) (pc := 34) (by decide) dX11_couldBe_34 fl_X11_182_7 sh_69 rfl (by unfold ge_Z; omega) ?_
      refine gq_tov (v := nI i) (by rw [ge_tS_o (by decide)]; exact hn.symm) ?_
      refine gq_ic_ge (pc := 37) 75 dX11_couldBe_37 (by decide) (fun h_37 => ?_) (fun h_37 => ?_)
      · refine gq_iconst (pc := 75) dX11_couldBe_75 kc_1 ?_
        exact gq_zret (pc := 76) rfl rfl dX11_couldBe_76 ⟨by unfold p_so; rw [← hR, decide_eq_true rfl]; rfl, by rw [← hR]; unfold p_hp; rw [if_pos rfl]⟩
      · exact absurd (Int32.le_refl _) h_37
    | succ m ih =>
      intro i hi hR
      have hS2 : p_okS g (c + (41 - i) + i) V (p_alone r w e) w e := by rw [show c + (41 - i) + i = c + 41 by omega]; exact hS
      have hat := p_hhS_at (hb := g 44) (n := i) (w := w) (e := e) (r := p_alone r w e) r (ao 0 (by omega)) (ao 6 (by omega)) (fun i hi => ao i (by omega)) (fun k hk => ao (18 + 4 * e + k) (by omega)) hS2
      refine gq_iload (pc := 31) dX11_couldBe_31 rfl ?_
      refine gq_aload_n (pc := 33) dX11_couldBe_33 rfl ?_
      refine kq_geto (pw := 25) (pc := 34) (by decide) dX11_couldBe_34 fl_X11_182_7 sh_69 rfl (by unfold ge_Z; omega) ?_
      refine gq_tov (v := nI n) (by rw [ge_tS_o (by decide)]; exact hn.symm) ?_
      refine gq_ic_ge (pc := 37) 75 dX11_couldBe_37 (by decide) (fun h_37 => ?_) (fun h_37 => ?_)
      · exact absurd ((nI_leI (a := n) (b := i) (by omega) (by omega)).mp h_37) (by omega)
      · refine gq_aload_n (pc := 40) dX11_couldBe_40 rfl ?_
        refine gq_getr (pc := 41) dX11_couldBe_41 fl_X11_64_11 sh_0 rfl ?_
        refine gq_iconst (pc := 44) dX11_couldBe_44 kc_1 ?_
        refine gq_rV1v (pc := 45) dX11_couldBe_45 cv_X11_214 sh_35 (c_tS1 (c := c + (40 - i)) (by rw [show c + (40 - i) + (i + 1) = c + 41 by omega]; exact hS)) ⟨by decide, by decide⟩ rfl rfl (Nat.le_of_ble_eq_true rfl) ?_
        refine gq_aload_n (pc := 48) dX11_couldBe_48 rfl ?_
        refine gq_getr (pc := 49) dX11_couldBe_49 fl_X11_64_11 sh_0 rfl ?_
        refine gq_getr (pc := 52) dX11_couldBe_52 fl_X11_229_10 sh_35 rfl ?_
        refine gq_iload_n (pc := 55) dX11_couldBe_55 rfl ?_
        refine kt_ald9 (pc := 56) dX11_couldBe_56 rfl (by first | decide | omega) ?_
        rw [hat]
        refine gq_aload_n (pc := 57) dX11_couldBe_57 rfl ?_
        refine gq_getr (pc := 58) dX11_couldBe_58 fl_X11_297_7 sh_69 rfl ?_
        refine gq_iload (pc := 61) dX11_couldBe_61 rfl ?_
        refine kq_aldo (pw := 25) (pc := 63) (by decide) dX11_couldBe_63 sh_70 (by decide) rfl (by first | decide | omega) (by decide) ?_
        refine gq_tov (v := g 70 i) (by first | (rw [ge_tS_o (by decide)]; done) | (rw [ge_k_o _ _ _ _ _ (by decide)]; done)) ?_
        refine gq_ic_eq (pc := 64) 69 dX11_couldBe_64 (by decide) (fun h_64 => ?_) (fun h_64 => ?_)
        · refine gq_iinc (pc := 69) (l' := [(4, _), (0, _), (1, _), (2, _), (3, _)]) dX11_couldBe_69 rfl (ge_inc1 i) (by decide) rfl ?_
          refine gq_goto (pc := 72) 31 dX11_couldBe_72 (by decide) ?_
          refine gq_sub [0, 1, 2, 3, 4] rfl ?_
          exact ih (i + 1) (by omega) (by rw [← hR]; exact (if_pos h_64.symm).symm)
        · have hR2 : p_ju (g 70) (p_sE r e) (m + 1) i = i := if_neg (fun q => h_64 q.symm)
          rw [hR2] at hR
          refine gq_iconst (pc := 67) dX11_couldBe_67 kc_0 ?_
          exact gq_zret (pc := 68) rfl rfl dX11_couldBe_68 ⟨by unfold p_so; rw [← hR, decide_eq_false (by omega)]; rfl, by rw [← hR]; unfold p_hp; rw [if_neg (by omega)]; rfl⟩
  refine gq_aload_n (pc := 0) dX11_couldBe_0 rfl ?_
  refine gq_getr (pc := 1) dX11_couldBe_1 fl_X11_64_11 sh_0 rfl ?_
  refine gq_aload_n (pc := 4) dX11_couldBe_4 rfl ?_
  refine gq_getr (pc := 5) dX11_couldBe_5 fl_X11_60_11 sh_0 rfl ?_
  refine gq_rV1v (pc := 8) dX11_couldBe_8 cv_X11_223 sh_35 c_cp ⟨by decide, by decide⟩ rfl rfl (Nat.le_of_ble_eq_true rfl) ?_
  refine gq_aload_n (pc := 11) dX11_couldBe_11 rfl ?_
  refine gq_getr (pc := 12) dX11_couldBe_12 fl_X11_64_11 sh_0 rfl ?_
  refine gq_iload_n (pc := 15) dX11_couldBe_15 rfl ?_
  refine gq_iload_n (pc := 16) dX11_couldBe_16 rfl ?_
  refine gq_rV2v (pc := 17) dX11_couldBe_17 cv_X11_271 sh_35 (c_fitA h rfl hw (by omega)) ⟨by decide, by decide⟩ rfl rfl (Nat.le_of_ble_eq_true rfl) ?_
  refine gq_aload_n (pc := 20) dX11_couldBe_20 rfl ?_
  refine gq_getr (pc := 21) dX11_couldBe_21 fl_X11_64_11 sh_0 rfl ?_
  refine gq_iload_n (pc := 24) dX11_couldBe_24 rfl ?_
  refine kt_put18 (pc := 25) dX11_couldBe_25 fp_X11_327_10 ?_
  refine gq_iconst (pc := 28) dX11_couldBe_28 kc_0 ?_
  refine gq_istore (pc := 29) (l' := [(4, _), (0, _), (1, _), (2, _), (3, _)]) dX11_couldBe_29 (by decide) rfl ?_
  refine gq_sub [0, 1, 2, 3, 4] rfl ?_
  exact key n 0 (by omega) rfl
set_option maxHeartbeats 1000000 in
theorem c_whose_ok0_1 {v : Int32} {w n : Nat} (h : p_ok g (c + 41) V r) (e2 : r 2 = nI E) (hE : E ≤ 8) (hv : v = nI w) (hw : w < V) (hn2 : n ≤ 40) (hn : g 69 1 = nI n) (hb0 : ¬ g 69 2 = 0) : ge_N X ge_SH YX11_whose 7 [.ref (ge_ad X.1 0), .int 1, .int v, .int 0] (ge_k g 25 r x hb) (some (.int (p_wsF (p_so (g 70) r n) E))) (ge_k (ge_wS g (g 70) r w V n (E)) 25 r x hb) := by
  have hV := h.2.2.1
  have e3 := h.2.1
  subst hv
  refine gq_ofB (l := [(0, .ref (ge_ad X.1 0)), (1, .int 1), (2, .int (nI w)), (3, .int 0)]) (by decide) (Nat.le_of_ble_eq_true rfl) rfl ?_
  have key : ∀ (m i : Nat), i + m = E → ge_B X ge_SH YX11_whose 7 (fun v2 g2 => v2 = (some (.int (p_wsF (p_so (g 70) r n) E))) ∧ g2 = (ge_k (ge_wS g (g 70) r w V n (E)) 25 r x hb)) 54 [(5, .int (nI i)), (4, .int (p_wsF (p_so (g 70) r n) i)), (0, .ref (ge_ad X.1 0)), (1, .int 1), (2, .int (nI w)), (3, .int 0)] [] (ge_k (ge_wS g (g 70) r w V n (i)) 25 r x hb) := by
    intro m
    induction m with
    | zero =>
      intro i hi
      obtain rfl : i = E := hi
      refine gq_iload (pc := 54) dX11_whose_54 rfl ?_
      refine gq_aload_n (pc := 56) dX11_whose_56 rfl ?_
      refine gq_getr (pc := 57) dX11_whose_57 fl_X11_60_11 sh_0 rfl ?_
      refine kq_get11 (pw := 25) (pc := 60) (by decide) dX11_whose_60 fl_X11_119_10 ?_
      rw [e2]
      refine gq_ic_ge (pc := 63) 97 dX11_whose_63 (by decide) (fun h_63 => ?_) (fun h_63 => ?_)
      · refine gq_iload_n (pc := 97) dX11_whose_97 rfl ?_
        refine gq_if_ne (pc := 98) 106 dX11_whose_98 (by decide) (fun h_98 => ?_) (fun h_98 => ?_)
        · exact absurd h_98 (by decide)
        · refine gq_iload (pc := 101) dX11_whose_101 rfl ?_
          refine gq_goto (pc := 103) 111 dX11_whose_103 (by decide) ?_
          exact gq_iret (pc := 111) rfl dX11_whose_111 ⟨rfl, rfl⟩
      · exact absurd (Int32.le_refl _) h_63
    | succ m ih =>
      intro i hi
      have hr : p_ok (ge_wS g (g 70) r w V n i) (c + 41) V r := p_ok_o (fun q hq => ge_wS_o (by omega) i) h
      have hn' : ge_wS g (g 70) r w V n i 69 1 = nI n := by rw [ge_wS_o (by decide)]; exact hn
      have hc := c_couldBe_1 (X := X) (x := x) (hb := hb) hr e2 hE hw (show i < E by omega) hn2 hn'
      have h2 : ge_wS g (g 70) r w V n i 70 = g 70 := ge_wS_o (by decide) i
      rw [h2] at hc
      have q := ih (i + 1) (by omega)
      have st1 : ge_tS (ge_wS g (g 70) r w V n i) r w i V (p_hp n (p_ju (g 70) (p_sE r i) n 0)) = ge_wS g (g 70) r w V n (i + 1) := rfl
      rw [st1] at hc
      refine gq_iload (pc := 54) dX11_whose_54 rfl ?_
      refine gq_aload_n (pc := 56) dX11_whose_56 rfl ?_
      refine gq_getr (pc := 57) dX11_whose_57 fl_X11_60_11 sh_0 rfl ?_
      refine kq_get11 (pw := 25) (pc := 60) (by decide) dX11_whose_60 fl_X11_119_10 ?_
      rw [e2]
      refine gq_ic_ge (pc := 63) 97 dX11_whose_63 (by decide) (fun h_63 => ?_) (fun h_63 => ?_)
      · exact absurd ((nI_leI (a := E) (b := i) (by omega) (by omega)).mp h_63) (by omega)
      · refine gq_aload_n (pc := 66) dX11_whose_66 rfl ?_
        refine gq_iload (pc := 67) dX11_whose_67 rfl ?_
        refine gq_aload_n (pc := 69) dX11_whose_69 rfl ?_
        refine gq_getr (pc := 70) dX11_whose_70 fl_X11_89_11 sh_0 rfl ?_
        refine gq_iload_n (pc := 73) dX11_whose_73 rfl ?_
        refine gq_aald (pc := 74) dX11_whose_74 sh_66 rfl kl_1 rfl (by decide) ?_
        refine gq_iload_n (pc := 75) dX11_whose_75 rfl ?_
        refine gq_rV3i (pc := 76) dX11_whose_76 cv_X11_238 sh_0 hc ⟨by decide, by decide⟩ rfl rfl (Nat.le_of_ble_eq_true rfl) ?_
        refine gq_if_eq (pc := 79) 91 dX11_whose_79 (by decide) (fun h_79 => ?_) (fun h_79 => ?_)
        · refine gq_iinc (pc := 91) (l' := [(5, _), (4, _), (0, _), (1, _), (2, _), (3, _)]) dX11_whose_91 rfl (ge_inc1 i) (by decide) rfl ?_
          refine gq_goto (pc := 94) 54 dX11_whose_94 (by decide) ?_
          rw [p_wsF_n (by rw [p_b_0.mp h_79]; decide)] at q
          refine gq_sub [0, 1, 2, 3, 4, 5] rfl ?_
          exact q
        · refine gq_iload (pc := 82) dX11_whose_82 rfl ?_
          refine gq_iconst (pc := 84) dX11_whose_84 kc_1 ?_
          refine gq_iload (pc := 85) dX11_whose_85 rfl ?_
          refine gq_ishl (pc := 87) dX11_whose_87 ?_
          refine gq_ior (pc := 88) dX11_whose_88 ?_
          refine gq_istore (pc := 89) (l' := [(4, _), (5, _), (0, _), (1, _), (2, _), (3, _)]) dX11_whose_89 (by decide) rfl ?_
          refine gq_iinc (pc := 91) (l' := [(5, _), (4, _), (0, _), (1, _), (2, _), (3, _)]) dX11_whose_91 rfl (ge_inc1 i) (by decide) rfl ?_
          refine gq_goto (pc := 94) 54 dX11_whose_94 (by decide) ?_
          rw [p_wsF_y (p_b_n.mp h_79)] at q
          refine gq_sub [0, 1, 2, 3, 4, 5] rfl ?_
          exact q
  refine gq_iload_n (pc := 0) dX11_whose_0 rfl ?_
  refine gq_rS1i (pc := 1) dX11_whose_1 cs_X11_232 (c_noSheet _) ⟨by decide, by decide⟩ (Nat.le_of_ble_eq_true rfl) ?_
  refine gq_if_ne (pc := 4) 24 dX11_whose_4 (by decide) (fun h_4 => ?_) (fun h_4 => ?_)
  · exact absurd (show p_nt (p_in 1 0 3) = 0 by decide) h_4
  · refine gq_aload_n (pc := 7) dX11_whose_7 rfl ?_
    refine gq_iload_n (pc := 8) dX11_whose_8 rfl ?_
    refine gq_rV1i (pc := 9) dX11_whose_9 cv_X11_157 sh_0 (c_noWearer _) ⟨by decide, by decide⟩ rfl rfl (Nat.le_of_ble_eq_true rfl) ?_
    refine gq_if_ne (pc := 12) 24 dX11_whose_12 (by decide) (fun h_12 => ?_) (fun h_12 => ?_)
    · exact absurd (p_nt_0.mpr (p_in_E rfl hw (by omega) e3)) h_12
    · refine gq_iload_n (pc := 15) dX11_whose_15 rfl ?_
      refine gq_iconst (pc := 16) dX11_whose_16 kc_0 ?_
      refine gq_iconst (pc := 17) dX11_whose_17 kc_1 ?_
      refine gq_rS3i (pc := 18) dX11_whose_18 cs_X11_105 (c_outside _ _ _) ⟨by decide, by decide⟩ (Nat.le_of_ble_eq_true rfl) ?_
      refine gq_if_eq (pc := 21) 30 dX11_whose_21 (by decide) (fun h_21 => ?_) (fun h_21 => ?_)
      · refine gq_aload_n (pc := 30) dX11_whose_30 rfl ?_
        refine gq_getr (pc := 31) dX11_whose_31 fl_X11_89_11 sh_0 rfl ?_
        refine gq_iload_n (pc := 34) dX11_whose_34 rfl ?_
        refine gq_aald (pc := 35) dX11_whose_35 sh_66 rfl kl_1 rfl (by decide) ?_
        refine kq_geto (pw := 25) (pc := 36) (by decide) dX11_whose_36 fl_X11_235_7 sh_69 rfl (by unfold ge_Z; omega) ?_
        refine gq_if_ne (pc := 39) 48 dX11_whose_39 (by decide) (fun h_39 => ?_) (fun h_39 => ?_)
        · refine gq_iconst (pc := 48) dX11_whose_48 kc_0 ?_
          refine gq_istore (pc := 49) (l' := [(4, _), (0, _), (1, _), (2, _), (3, _)]) dX11_whose_49 (by decide) rfl ?_
          refine gq_iconst (pc := 51) dX11_whose_51 kc_0 ?_
          refine gq_istore (pc := 52) (l' := [(5, _), (4, _), (0, _), (1, _), (2, _), (3, _)]) dX11_whose_52 (by decide) rfl ?_
          refine gq_sub [0, 1, 2, 3, 4, 5] rfl ?_
          exact key E 0 (by omega)
        · exact absurd h_39 hb0
      · exact absurd (show p_nt (p_in 0 0 1) = 0 by decide) h_21
set_option maxHeartbeats 1000000 in
theorem c_whose_ok1_1 {v : Int32} {w n : Nat} (h : p_ok g (c + 41) V r) (e2 : r 2 = nI E) (hE : E ≤ 8) (hv : v = nI w) (hw : w < V) (hn2 : n ≤ 40) (hn : g 69 1 = nI n) (hb0 : ¬ g 69 2 = 0) {k : Nat} (hk : p_wsF (p_so (g 70) r n) E = nI k) (hk2 : k < 1024) : ge_N X ge_SH YX11_whose 7 [.ref (ge_ad X.1 0), .int 1, .int v, .int 1] (ge_k g 25 r x hb) (some (.int (nI (p_pop k)))) (ge_k (ge_wS g (g 70) r w V n (E)) 25 r x hb) := by
  have hV := h.2.2.1
  have e3 := h.2.1
  subst hv
  refine gq_ofB (l := [(0, .ref (ge_ad X.1 0)), (1, .int 1), (2, .int (nI w)), (3, .int 1)]) (by decide) (Nat.le_of_ble_eq_true rfl) rfl ?_
  have key : ∀ (m i : Nat), i + m = E → ge_B X ge_SH YX11_whose 7 (fun v2 g2 => v2 = (some (.int (nI (p_pop k)))) ∧ g2 = (ge_k (ge_wS g (g 70) r w V n (E)) 25 r x hb)) 54 [(5, .int (nI i)), (4, .int (p_wsF (p_so (g 70) r n) i)), (0, .ref (ge_ad X.1 0)), (1, .int 1), (2, .int (nI w)), (3, .int 1)] [] (ge_k (ge_wS g (g 70) r w V n (i)) 25 r x hb) := by
    intro m
    induction m with
    | zero =>
      intro i hi
      obtain rfl : i = E := hi
      refine gq_iload (pc := 54) dX11_whose_54 rfl ?_
      refine gq_aload_n (pc := 56) dX11_whose_56 rfl ?_
      refine gq_getr (pc := 57) dX11_whose_57 fl_X11_60_11 sh_0 rfl ?_
      refine kq_get11 (pw := 25) (pc := 60) (by decide) dX11_whose_60 fl_X11_119_10 ?_
      rw [e2]
      refine gq_ic_ge (pc := 63) 97 dX11_whose_63 (by decide) (fun h_63 => ?_) (fun h_63 => ?_)
      · refine gq_iload_n (pc := 97) dX11_whose_97 rfl ?_
        refine gq_if_ne (pc := 98) 106 dX11_whose_98 (by decide) (fun h_98 => ?_) (fun h_98 => ?_)
        · refine gq_iload (pc := 106) dX11_whose_106 rfl ?_
          refine gq_rS1i (pc := 108) dX11_whose_108 cs_X11_242 (k_bc hk hk2) ⟨by decide, by decide⟩ (Nat.le_of_ble_eq_true rfl) ?_
          exact gq_iret (pc := 111) rfl dX11_whose_111 ⟨rfl, rfl⟩
        · exact absurd h_98 (by decide)
      · exact absurd (Int32.le_refl _) h_63
    | succ m ih =>
      intro i hi
      have hr : p_ok (ge_wS g (g 70) r w V n i) (c + 41) V r := p_ok_o (fun q hq => ge_wS_o (by omega) i) h
      have hn' : ge_wS g (g 70) r w V n i 69 1 = nI n := by rw [ge_wS_o (by decide)]; exact hn
      have hc := c_couldBe_1 (X := X) (x := x) (hb := hb) hr e2 hE hw (show i < E by omega) hn2 hn'
      have h2 : ge_wS g (g 70) r w V n i 70 = g 70 := ge_wS_o (by decide) i
      rw [h2] at hc
      have q := ih (i + 1) (by omega)
      have st1 : ge_tS (ge_wS g (g 70) r w V n i) r w i V (p_hp n (p_ju (g 70) (p_sE r i) n 0)) = ge_wS g (g 70) r w V n (i + 1) := rfl
      rw [st1] at hc
      refine gq_iload (pc := 54) dX11_whose_54 rfl ?_
      refine gq_aload_n (pc := 56) dX11_whose_56 rfl ?_
      refine gq_getr (pc := 57) dX11_whose_57 fl_X11_60_11 sh_0 rfl ?_
      refine kq_get11 (pw := 25) (pc := 60) (by decide) dX11_whose_60 fl_X11_119_10 ?_
      rw [e2]
      refine gq_ic_ge (pc := 63) 97 dX11_whose_63 (by decide) (fun h_63 => ?_) (fun h_63 => ?_)
      · exact absurd ((nI_leI (a := E) (b := i) (by omega) (by omega)).mp h_63) (by omega)
      · refine gq_aload_n (pc := 66) dX11_whose_66 rfl ?_
        refine gq_iload (pc := 67) dX11_whose_67 rfl ?_
        refine gq_aload_n (pc := 69) dX11_whose_69 rfl ?_
        refine gq_getr (pc := 70) dX11_whose_70 fl_X11_89_11 sh_0 rfl ?_
        refine gq_iload_n (pc := 73) dX11_whose_73 rfl ?_
        refine gq_aald (pc := 74) dX11_whose_74 sh_66 rfl kl_1 rfl (by decide) ?_
        refine gq_iload_n (pc := 75) dX11_whose_75 rfl ?_
        refine gq_rV3i (pc := 76) dX11_whose_76 cv_X11_238 sh_0 hc ⟨by decide, by decide⟩ rfl rfl (Nat.le_of_ble_eq_true rfl) ?_
        refine gq_if_eq (pc := 79) 91 dX11_whose_79 (by decide) (fun h_79 => ?_) (fun h_79 => ?_)
        · refine gq_iinc (pc := 91) (l' := [(5, _), (4, _), (0, _), (1, _), (2, _), (3, _)]) dX11_whose_91 rfl (ge_inc1 i) (by decide) rfl ?_
          refine gq_goto (pc := 94) 54 dX11_whose_94 (by decide) ?_
          rw [p_wsF_n (by rw [p_b_0.mp h_79]; decide)] at q
          refine gq_sub [0, 1, 2, 3, 4, 5] rfl ?_
          exact q
        · refine gq_iload (pc := 82) dX11_whose_82 rfl ?_
          refine gq_iconst (pc := 84) dX11_whose_84 kc_1 ?_
          refine gq_iload (pc := 85) dX11_whose_85 rfl ?_
          refine gq_ishl (pc := 87) dX11_whose_87 ?_
          refine gq_ior (pc := 88) dX11_whose_88 ?_
          refine gq_istore (pc := 89) (l' := [(4, _), (5, _), (0, _), (1, _), (2, _), (3, _)]) dX11_whose_89 (by decide) rfl ?_
          refine gq_iinc (pc := 91) (l' := [(5, _), (4, _), (0, _), (1, _), (2, _), (3, _)]) dX11_whose_91 rfl (ge_inc1 i) (by decide) rfl ?_
          refine gq_goto (pc := 94) 54 dX11_whose_94 (by decide) ?_
          rw [p_wsF_y (p_b_n.mp h_79)] at q
          refine gq_sub [0, 1, 2, 3, 4, 5] rfl ?_
          exact q
  refine gq_iload_n (pc := 0) dX11_whose_0 rfl ?_
  refine gq_rS1i (pc := 1) dX11_whose_1 cs_X11_232 (c_noSheet _) ⟨by decide, by decide⟩ (Nat.le_of_ble_eq_true rfl) ?_
  refine gq_if_ne (pc := 4) 24 dX11_whose_4 (by decide) (fun h_4 => ?_) (fun h_4 => ?_)
  · exact absurd (show p_nt (p_in 1 0 3) = 0 by decide) h_4
  · refine gq_aload_n (pc := 7) dX11_whose_7 rfl ?_
    refine gq_iload_n (pc := 8) dX11_whose_8 rfl ?_
    refine gq_rV1i (pc := 9) dX11_whose_9 cv_X11_157 sh_0 (c_noWearer _) ⟨by decide, by decide⟩ rfl rfl (Nat.le_of_ble_eq_true rfl) ?_
    refine gq_if_ne (pc := 12) 24 dX11_whose_12 (by decide) (fun h_12 => ?_) (fun h_12 => ?_)
    · exact absurd (p_nt_0.mpr (p_in_E rfl hw (by omega) e3)) h_12
    · refine gq_iload_n (pc := 15) dX11_whose_15 rfl ?_
      refine gq_iconst (pc := 16) dX11_whose_16 kc_0 ?_
      refine gq_iconst (pc := 17) dX11_whose_17 kc_1 ?_
      refine gq_rS3i (pc := 18) dX11_whose_18 cs_X11_105 (c_outside _ _ _) ⟨by decide, by decide⟩ (Nat.le_of_ble_eq_true rfl) ?_
      refine gq_if_eq (pc := 21) 30 dX11_whose_21 (by decide) (fun h_21 => ?_) (fun h_21 => ?_)
      · refine gq_aload_n (pc := 30) dX11_whose_30 rfl ?_
        refine gq_getr (pc := 31) dX11_whose_31 fl_X11_89_11 sh_0 rfl ?_
        refine gq_iload_n (pc := 34) dX11_whose_34 rfl ?_
        refine gq_aald (pc := 35) dX11_whose_35 sh_66 rfl kl_1 rfl (by decide) ?_
        refine kq_geto (pw := 25) (pc := 36) (by decide) dX11_whose_36 fl_X11_235_7 sh_69 rfl (by unfold ge_Z; omega) ?_
        refine gq_if_ne (pc := 39) 48 dX11_whose_39 (by decide) (fun h_39 => ?_) (fun h_39 => ?_)
        · refine gq_iconst (pc := 48) dX11_whose_48 kc_0 ?_
          refine gq_istore (pc := 49) (l' := [(4, _), (0, _), (1, _), (2, _), (3, _)]) dX11_whose_49 (by decide) rfl ?_
          refine gq_iconst (pc := 51) dX11_whose_51 kc_0 ?_
          refine gq_istore (pc := 52) (l' := [(5, _), (4, _), (0, _), (1, _), (2, _), (3, _)]) dX11_whose_52 (by decide) rfl ?_
          refine gq_sub [0, 1, 2, 3, 4, 5] rfl ?_
          exact key E 0 (by omega)
        · exact absurd h_39 hb0
      · exact absurd (show p_nt (p_in 1 0 1) = 0 by decide) h_21
set_option maxHeartbeats 400000 in
theorem c_whose_no_1 {v a : Int32} (h1 : ¬ p_in v 0 (r 3 - 1) = 0) (h2 : ¬ p_in a 0 1 = 0) (h : g 69 2 = 0) : ge_N X ge_SH YX11_whose 7 [.ref (ge_ad X.1 0), .int 1, .int v, .int a] (ge_k g 25 r x hb) (some (.int (-1000000000 - 2))) (ge_k (ge_up g 75 2 (g 75 2 + 1)) 25 r x hb) := by
  refine gq_ofB (l := [(0, .ref (ge_ad X.1 0)), (1, .int 1), (2, .int v), (3, .int a)]) (by decide) (Nat.le_of_ble_eq_true rfl) rfl ?_
  refine gq_iload_n (pc := 0) dX11_whose_0 rfl ?_
  refine gq_rS1i (pc := 1) dX11_whose_1 cs_X11_232 (c_noSheet _) ⟨by decide, by decide⟩ (Nat.le_of_ble_eq_true rfl) ?_
  refine gq_if_ne (pc := 4) 24 dX11_whose_4 (by decide) (fun h_4 => ?_) (fun h_4 => ?_)
  · exact absurd (show p_nt (p_in 1 0 3) = 0 by decide) h_4
  · refine gq_aload_n (pc := 7) dX11_whose_7 rfl ?_
    refine gq_iload_n (pc := 8) dX11_whose_8 rfl ?_
    refine gq_rV1i (pc := 9) dX11_whose_9 cv_X11_157 sh_0 (c_noWearer _) ⟨by decide, by decide⟩ rfl rfl (Nat.le_of_ble_eq_true rfl) ?_
    refine gq_if_ne (pc := 12) 24 dX11_whose_12 (by decide) (fun h_12 => ?_) (fun h_12 => ?_)
    · exact absurd (p_nt_0.mpr h1) h_12
    · refine gq_iload_n (pc := 15) dX11_whose_15 rfl ?_
      refine gq_iconst (pc := 16) dX11_whose_16 kc_0 ?_
      refine gq_iconst (pc := 17) dX11_whose_17 kc_1 ?_
      refine gq_rS3i (pc := 18) dX11_whose_18 cs_X11_105 (c_outside _ _ _) ⟨by decide, by decide⟩ (Nat.le_of_ble_eq_true rfl) ?_
      refine gq_if_eq (pc := 21) 30 dX11_whose_21 (by decide) (fun h_21 => ?_) (fun h_21 => ?_)
      · refine gq_aload_n (pc := 30) dX11_whose_30 rfl ?_
        refine gq_getr (pc := 31) dX11_whose_31 fl_X11_89_11 sh_0 rfl ?_
        refine gq_iload_n (pc := 34) dX11_whose_34 rfl ?_
        refine gq_aald (pc := 35) dX11_whose_35 sh_66 rfl kl_1 rfl (by decide) ?_
        refine kq_geto (pw := 25) (pc := 36) (by decide) dX11_whose_36 fl_X11_235_7 sh_69 rfl (by unfold ge_Z; omega) ?_
        refine gq_if_ne (pc := 39) 48 dX11_whose_39 (by decide) (fun h_39 => ?_) (fun h_39 => ?_)
        · exact absurd h h_39
        · refine gq_aload_n (pc := 42) dX11_whose_42 rfl ?_
          refine gq_iconst (pc := 43) dX11_whose_43 kc_2 ?_
          refine gq_rV1i (pc := 44) dX11_whose_44 cv_X11_109 sh_0 (c_error kl_2 (by decide)) ⟨by decide, by decide⟩ rfl rfl (Nat.le_of_ble_eq_true rfl) ?_
          exact gq_iret (pc := 47) rfl dX11_whose_47 ⟨rfl, rfl⟩
      · exact absurd (p_nt_0.mpr h2) h_21
set_option maxHeartbeats 1000000 in
theorem c_couldBe_2 {w e n : Nat} (h : p_ok g (c + 41) V r) (e2 : r 2 = nI E) (hE : E ≤ 8) (hw : w < V) (he : e < E) (hn2 : n ≤ 40) (hn : g 71 1 = nI n) : ge_N X ge_SH YX11_couldBe 6 [.ref (ge_ad X.1 0), .int (nI e), .ref (ge_ad X.1 71), .int (nI w)] (ge_k g 25 r x hb) (some (.int (p_b (p_so (g 72) r n e)))) (ge_k (ge_tS g r w e V (p_hp n (p_ju (g 72) (p_sE r e) n 0))) 25 r x hb) := by
  have hV := h.2.2.1
  have hS := p_okS_alone h e2 hE hw he
  have ao : ∀ i, (i < 50 ∨ 74 ≤ i) → p_alone r w e i = r i := fun i hi => p_alone_o h (by omega) hw hi
  refine gq_ofB (l := [(0, .ref (ge_ad X.1 0)), (1, .int (nI e)), (2, .ref (ge_ad X.1 71)), (3, .int (nI w))]) (by decide) (Nat.le_of_ble_eq_true rfl) rfl ?_
  have key : ∀ (m i : Nat), i + m = n → p_ju (g 72) (p_sE r e) m i = p_ju (g 72) (p_sE r e) n 0 → ge_B X ge_SH YX11_couldBe 6 (fun v2 g2 => v2 = (some (.int (p_b (p_so (g 72) r n e)))) ∧ g2 = (ge_k (ge_tS g r w e V (p_hp n (p_ju (g 72) (p_sE r e) n 0))) 25 r x hb)) 31 [(4, .int (nI i)), (0, .ref (ge_ad X.1 0)), (1, .int (nI e)), (2, .ref (ge_ad X.1 71)), (3, .int (nI w))] [] (ge_k (ge_tS g r w e V (i)) 25 r x hb) := by
    intro m
    induction m with
    | zero =>
      intro i hi hR
      obtain rfl : i = n := hi
      have hR : i = p_ju (g 72) (p_sE r e) i 0 := hR
      refine gq_iload (pc := 31) dX11_couldBe_31 rfl ?_
      refine gq_aload_n (pc := 33) dX11_couldBe_33 rfl ?_
      refine kq_geto (pw := 25) (pc := 34) (by decide) dX11_couldBe_34 fl_X11_182_7 sh_71 rfl (by unfold ge_Z; omega) ?_
      refine gq_tov (v := nI i) (by rw [ge_tS_o (by decide)]; exact hn.symm) ?_
      refine gq_ic_ge (pc := 37) 75 dX11_couldBe_37 (by decide) (fun h_37 => ?_) (fun h_37 => ?_)
      · refine gq_iconst (pc := 75) dX11_couldBe_75 kc_1 ?_
        exact gq_zret (pc := 76) rfl rfl dX11_couldBe_76 ⟨by unfold p_so; rw [← hR, decide_eq_true rfl]; rfl, by rw [← hR]; unfold p_hp; rw [if_pos rfl]⟩
      · exact absurd (Int32.le_refl _) h_37
    | succ m ih =>
      intro i hi hR
      have hS2 : p_okS g (c + (41 - i) + i) V (p_alone r w e) w e := by rw [show c + (41 - i) + i = c + 41 by omega]; exact hS
      have hat := p_hhS_at (hb := g 44) (n := i) (w := w) (e := e) (r := p_alone r w e) r (ao 0 (by omega)) (ao 6 (by omega)) (fun i hi => ao i (by omega)) (fun k hk => ao (18 + 4 * e + k) (by omega)) hS2
      refine gq_iload (pc := 31) dX11_couldBe_31 rfl ?_
      refine gq_aload_n (pc := 33) dX11_couldBe_33 rfl ?_
      refine kq_geto (pw := 25) (pc := 34) (by decide) dX11_couldBe_34 fl_X11_182_7 sh_71 rfl (by unfold ge_Z; omega) ?_
      refine gq_tov (v := nI n) (by rw [ge_tS_o (by decide)]; exact hn.symm) ?_
      refine gq_ic_ge (pc := 37) 75 dX11_couldBe_37 (by decide) (fun h_37 => ?_) (fun h_37 => ?_)
      · exact absurd ((nI_leI (a := n) (b := i) (by omega) (by omega)).mp h_37) (by omega)
      · refine gq_aload_n (pc := 40) dX11_couldBe_40 rfl ?_
        refine gq_getr (pc := 41) dX11_couldBe_41 fl_X11_64_11 sh_0 rfl ?_
        refine gq_iconst (pc := 44) dX11_couldBe_44 kc_1 ?_
        refine gq_rV1v (pc := 45) dX11_couldBe_45 cv_X11_214 sh_35 (c_tS1 (c := c + (40 - i)) (by rw [show c + (40 - i) + (i + 1) = c + 41 by omega]; exact hS)) ⟨by decide, by decide⟩ rfl rfl (Nat.le_of_ble_eq_true rfl) ?_
        refine gq_aload_n (pc := 48) dX11_couldBe_48 rfl ?_
        refine gq_getr (pc := 49) dX11_couldBe_49 fl_X11_64_11 sh_0 rfl ?_
        refine gq_getr (pc := 52) dX11_couldBe_52 fl_X11_229_10 sh_35 rfl ?_
        refine gq_iload_n (pc := 55) dX11_couldBe_55 rfl ?_
        refine kt_ald9 (pc := 56) dX11_couldBe_56 rfl (by first | decide | omega) ?_
        rw [hat]
        refine gq_aload_n (pc := 57) dX11_couldBe_57 rfl ?_
        refine gq_getr (pc := 58) dX11_couldBe_58 fl_X11_297_7 sh_71 rfl ?_
        refine gq_iload (pc := 61) dX11_couldBe_61 rfl ?_
        refine kq_aldo (pw := 25) (pc := 63) (by decide) dX11_couldBe_63 sh_72 (by decide) rfl (by first | decide | omega) (by decide) ?_
        refine gq_tov (v := g 72 i) (by first | (rw [ge_tS_o (by decide)]; done) | (rw [ge_k_o _ _ _ _ _ (by decide)]; done)) ?_
        refine gq_ic_eq (pc := 64) 69 dX11_couldBe_64 (by decide) (fun h_64 => ?_) (fun h_64 => ?_)
        · refine gq_iinc (pc := 69) (l' := [(4, _), (0, _), (1, _), (2, _), (3, _)]) dX11_couldBe_69 rfl (ge_inc1 i) (by decide) rfl ?_
          refine gq_goto (pc := 72) 31 dX11_couldBe_72 (by decide) ?_
          refine gq_sub [0, 1, 2, 3, 4] rfl ?_
          exact ih (i + 1) (by omega) (by rw [← hR]; exact (if_pos h_64.symm).symm)
        · have hR2 : p_ju (g 72) (p_sE r e) (m + 1) i = i := if_neg (fun q => h_64 q.symm)
          rw [hR2] at hR
          refine gq_iconst (pc := 67) dX11_couldBe_67 kc_0 ?_
          exact gq_zret (pc := 68) rfl rfl dX11_couldBe_68 ⟨by unfold p_so; rw [← hR, decide_eq_false (by omega)]; rfl, by rw [← hR]; unfold p_hp; rw [if_neg (by omega)]; rfl⟩
  refine gq_aload_n (pc := 0) dX11_couldBe_0 rfl ?_
  refine gq_getr (pc := 1) dX11_couldBe_1 fl_X11_64_11 sh_0 rfl ?_
  refine gq_aload_n (pc := 4) dX11_couldBe_4 rfl ?_
  refine gq_getr (pc := 5) dX11_couldBe_5 fl_X11_60_11 sh_0 rfl ?_
  refine gq_rV1v (pc := 8) dX11_couldBe_8 cv_X11_223 sh_35 c_cp ⟨by decide, by decide⟩ rfl rfl (Nat.le_of_ble_eq_true rfl) ?_
  refine gq_aload_n (pc := 11) dX11_couldBe_11 rfl ?_
  refine gq_getr (pc := 12) dX11_couldBe_12 fl_X11_64_11 sh_0 rfl ?_
  refine gq_iload_n (pc := 15) dX11_couldBe_15 rfl ?_
  refine gq_iload_n (pc := 16) dX11_couldBe_16 rfl ?_
  refine gq_rV2v (pc := 17) dX11_couldBe_17 cv_X11_271 sh_35 (c_fitA h rfl hw (by omega)) ⟨by decide, by decide⟩ rfl rfl (Nat.le_of_ble_eq_true rfl) ?_
  refine gq_aload_n (pc := 20) dX11_couldBe_20 rfl ?_
  refine gq_getr (pc := 21) dX11_couldBe_21 fl_X11_64_11 sh_0 rfl ?_
  refine gq_iload_n (pc := 24) dX11_couldBe_24 rfl ?_
  refine kt_put18 (pc := 25) dX11_couldBe_25 fp_X11_327_10 ?_
  refine gq_iconst (pc := 28) dX11_couldBe_28 kc_0 ?_
  refine gq_istore (pc := 29) (l' := [(4, _), (0, _), (1, _), (2, _), (3, _)]) dX11_couldBe_29 (by decide) rfl ?_
  refine gq_sub [0, 1, 2, 3, 4] rfl ?_
  exact key n 0 (by omega) rfl
set_option maxHeartbeats 1000000 in
theorem c_whose_ok0_2 {v : Int32} {w n : Nat} (h : p_ok g (c + 41) V r) (e2 : r 2 = nI E) (hE : E ≤ 8) (hv : v = nI w) (hw : w < V) (hn2 : n ≤ 40) (hn : g 71 1 = nI n) (hb0 : ¬ g 71 2 = 0) : ge_N X ge_SH YX11_whose 7 [.ref (ge_ad X.1 0), .int 2, .int v, .int 0] (ge_k g 25 r x hb) (some (.int (p_wsF (p_so (g 72) r n) E))) (ge_k (ge_wS g (g 72) r w V n (E)) 25 r x hb) := by
  have hV := h.2.2.1
  have e3 := h.2.1
  subst hv
  refine gq_ofB (l := [(0, .ref (ge_ad X.1 0)), (1, .int 2), (2, .int (nI w)), (3, .int 0)]) (by decide) (Nat.le_of_ble_eq_true rfl) rfl ?_
  have key : ∀ (m i : Nat), i + m = E → ge_B X ge_SH YX11_whose 7 (fun v2 g2 => v2 = (some (.int (p_wsF (p_so (g 72) r n) E))) ∧ g2 = (ge_k (ge_wS g (g 72) r w V n (E)) 25 r x hb)) 54 [(5, .int (nI i)), (4, .int (p_wsF (p_so (g 72) r n) i)), (0, .ref (ge_ad X.1 0)), (1, .int 2), (2, .int (nI w)), (3, .int 0)] [] (ge_k (ge_wS g (g 72) r w V n (i)) 25 r x hb) := by
    intro m
    induction m with
    | zero =>
      intro i hi
      obtain rfl : i = E := hi
      refine gq_iload (pc := 54) dX11_whose_54 rfl ?_
      refine gq_aload_n (pc := 56) dX11_whose_56 rfl ?_
      refine gq_getr (pc := 57) dX11_whose_57 fl_X11_60_11 sh_0 rfl ?_
      refine kq_get11 (pw := 25) (pc := 60) (by decide) dX11_whose_60 fl_X11_119_10 ?_
      rw [e2]
      refine gq_ic_ge (pc := 63) 97 dX11_whose_63 (by decide) (fun h_63 => ?_) (fun h_63 => ?_)
      · refine gq_iload_n (pc := 97) dX11_whose_97 rfl ?_
        refine gq_if_ne (pc := 98) 106 dX11_whose_98 (by decide) (fun h_98 => ?_) (fun h_98 => ?_)
        · exact absurd h_98 (by decide)
        · refine gq_iload (pc := 101) dX11_whose_101 rfl ?_
          refine gq_goto (pc := 103) 111 dX11_whose_103 (by decide) ?_
          exact gq_iret (pc := 111) rfl dX11_whose_111 ⟨rfl, rfl⟩
      · exact absurd (Int32.le_refl _) h_63
    | succ m ih =>
      intro i hi
      have hr : p_ok (ge_wS g (g 72) r w V n i) (c + 41) V r := p_ok_o (fun q hq => ge_wS_o (by omega) i) h
      have hn' : ge_wS g (g 72) r w V n i 71 1 = nI n := by rw [ge_wS_o (by decide)]; exact hn
      have hc := c_couldBe_2 (X := X) (x := x) (hb := hb) hr e2 hE hw (show i < E by omega) hn2 hn'
      have h2 : ge_wS g (g 72) r w V n i 72 = g 72 := ge_wS_o (by decide) i
      rw [h2] at hc
      have q := ih (i + 1) (by omega)
      have st1 : ge_tS (ge_wS g (g 72) r w V n i) r w i V (p_hp n (p_ju (g 72) (p_sE r i) n 0)) = ge_wS g (g 72) r w V n (i + 1) := rfl
      rw [st1] at hc
      refine gq_iload (pc := 54) dX11_whose_54 rfl ?_
      refine gq_aload_n (pc := 56) dX11_whose_56 rfl ?_
      refine gq_getr (pc := 57) dX11_whose_57 fl_X11_60_11 sh_0 rfl ?_
      refine kq_get11 (pw := 25) (pc := 60) (by decide) dX11_whose_60 fl_X11_119_10 ?_
      rw [e2]
      refine gq_ic_ge (pc := 63) 97 dX11_whose_63 (by decide) (fun h_63 => ?_) (fun h_63 => ?_)
      · exact absurd ((nI_leI (a := E) (b := i) (by omega) (by omega)).mp h_63) (by omega)
      · refine gq_aload_n (pc := 66) dX11_whose_66 rfl ?_
        refine gq_iload (pc := 67) dX11_whose_67 rfl ?_
        refine gq_aload_n (pc := 69) dX11_whose_69 rfl ?_
        refine gq_getr (pc := 70) dX11_whose_70 fl_X11_89_11 sh_0 rfl ?_
        refine gq_iload_n (pc := 73) dX11_whose_73 rfl ?_
        refine gq_aald (pc := 74) dX11_whose_74 sh_66 rfl kl_2 rfl (by decide) ?_
        refine gq_iload_n (pc := 75) dX11_whose_75 rfl ?_
        refine gq_rV3i (pc := 76) dX11_whose_76 cv_X11_238 sh_0 hc ⟨by decide, by decide⟩ rfl rfl (Nat.le_of_ble_eq_true rfl) ?_
        refine gq_if_eq (pc := 79) 91 dX11_whose_79 (by decide) (fun h_79 => ?_) (fun h_79 => ?_)
        · refine gq_iinc (pc := 91) (l' := [(5, _), (4, _), (0, _), (1, _), (2, _), (3, _)]) dX11_whose_91 rfl (ge_inc1 i) (by decide) rfl ?_
          refine gq_goto (pc := 94) 54 dX11_whose_94 (by decide) ?_
          rw [p_wsF_n (by rw [p_b_0.mp h_79]; decide)] at q
          refine gq_sub [0, 1, 2, 3, 4, 5] rfl ?_
          exact q
        · refine gq_iload (pc := 82) dX11_whose_82 rfl ?_
          refine gq_iconst (pc := 84) dX11_whose_84 kc_1 ?_
          refine gq_iload (pc := 85) dX11_whose_85 rfl ?_
          refine gq_ishl (pc := 87) dX11_whose_87 ?_
          refine gq_ior (pc := 88) dX11_whose_88 ?_
          refine gq_istore (pc := 89) (l' := [(4, _), (5, _), (0, _), (1, _), (2, _), (3, _)]) dX11_whose_89 (by decide) rfl ?_
          refine gq_iinc (pc := 91) (l' := [(5, _), (4, _), (0, _), (1, _), (2, _), (3, _)]) dX11_whose_91 rfl (ge_inc1 i) (by decide) rfl ?_
          refine gq_goto (pc := 94) 54 dX11_whose_94 (by decide) ?_
          rw [p_wsF_y (p_b_n.mp h_79)] at q
          refine gq_sub [0, 1, 2, 3, 4, 5] rfl ?_
          exact q
  refine gq_iload_n (pc := 0) dX11_whose_0 rfl ?_
  refine gq_rS1i (pc := 1) dX11_whose_1 cs_X11_232 (c_noSheet _) ⟨by decide, by decide⟩ (Nat.le_of_ble_eq_true rfl) ?_
  refine gq_if_ne (pc := 4) 24 dX11_whose_4 (by decide) (fun h_4 => ?_) (fun h_4 => ?_)
  · exact absurd (show p_nt (p_in 2 0 3) = 0 by decide) h_4
  · refine gq_aload_n (pc := 7) dX11_whose_7 rfl ?_
    refine gq_iload_n (pc := 8) dX11_whose_8 rfl ?_
    refine gq_rV1i (pc := 9) dX11_whose_9 cv_X11_157 sh_0 (c_noWearer _) ⟨by decide, by decide⟩ rfl rfl (Nat.le_of_ble_eq_true rfl) ?_
    refine gq_if_ne (pc := 12) 24 dX11_whose_12 (by decide) (fun h_12 => ?_) (fun h_12 => ?_)
    · exact absurd (p_nt_0.mpr (p_in_E rfl hw (by omega) e3)) h_12
    · refine gq_iload_n (pc := 15) dX11_whose_15 rfl ?_
      refine gq_iconst (pc := 16) dX11_whose_16 kc_0 ?_
      refine gq_iconst (pc := 17) dX11_whose_17 kc_1 ?_
      refine gq_rS3i (pc := 18) dX11_whose_18 cs_X11_105 (c_outside _ _ _) ⟨by decide, by decide⟩ (Nat.le_of_ble_eq_true rfl) ?_
      refine gq_if_eq (pc := 21) 30 dX11_whose_21 (by decide) (fun h_21 => ?_) (fun h_21 => ?_)
      · refine gq_aload_n (pc := 30) dX11_whose_30 rfl ?_
        refine gq_getr (pc := 31) dX11_whose_31 fl_X11_89_11 sh_0 rfl ?_
        refine gq_iload_n (pc := 34) dX11_whose_34 rfl ?_
        refine gq_aald (pc := 35) dX11_whose_35 sh_66 rfl kl_2 rfl (by decide) ?_
        refine kq_geto (pw := 25) (pc := 36) (by decide) dX11_whose_36 fl_X11_235_7 sh_71 rfl (by unfold ge_Z; omega) ?_
        refine gq_if_ne (pc := 39) 48 dX11_whose_39 (by decide) (fun h_39 => ?_) (fun h_39 => ?_)
        · refine gq_iconst (pc := 48) dX11_whose_48 kc_0 ?_
          refine gq_istore (pc := 49) (l' := [(4, _), (0, _), (1, _), (2, _), (3, _)]) dX11_whose_49 (by decide) rfl ?_
          refine gq_iconst (pc := 51) dX11_whose_51 kc_0 ?_
          refine gq_istore (pc := 52) (l' := [(5, _), (4, _), (0, _), (1, _), (2, _), (3, _)]) dX11_whose_52 (by decide) rfl ?_
          refine gq_sub [0, 1, 2, 3, 4, 5] rfl ?_
          exact key E 0 (by omega)
        · exact absurd h_39 hb0
      · exact absurd (show p_nt (p_in 0 0 1) = 0 by decide) h_21
set_option maxHeartbeats 1000000 in
theorem c_whose_ok1_2 {v : Int32} {w n : Nat} (h : p_ok g (c + 41) V r) (e2 : r 2 = nI E) (hE : E ≤ 8) (hv : v = nI w) (hw : w < V) (hn2 : n ≤ 40) (hn : g 71 1 = nI n) (hb0 : ¬ g 71 2 = 0) {k : Nat} (hk : p_wsF (p_so (g 72) r n) E = nI k) (hk2 : k < 1024) : ge_N X ge_SH YX11_whose 7 [.ref (ge_ad X.1 0), .int 2, .int v, .int 1] (ge_k g 25 r x hb) (some (.int (nI (p_pop k)))) (ge_k (ge_wS g (g 72) r w V n (E)) 25 r x hb) := by
  have hV := h.2.2.1
  have e3 := h.2.1
  subst hv
  refine gq_ofB (l := [(0, .ref (ge_ad X.1 0)), (1, .int 2), (2, .int (nI w)), (3, .int 1)]) (by decide) (Nat.le_of_ble_eq_true rfl) rfl ?_
  have key : ∀ (m i : Nat), i + m = E → ge_B X ge_SH YX11_whose 7 (fun v2 g2 => v2 = (some (.int (nI (p_pop k)))) ∧ g2 = (ge_k (ge_wS g (g 72) r w V n (E)) 25 r x hb)) 54 [(5, .int (nI i)), (4, .int (p_wsF (p_so (g 72) r n) i)), (0, .ref (ge_ad X.1 0)), (1, .int 2), (2, .int (nI w)), (3, .int 1)] [] (ge_k (ge_wS g (g 72) r w V n (i)) 25 r x hb) := by
    intro m
    induction m with
    | zero =>
      intro i hi
      obtain rfl : i = E := hi
      refine gq_iload (pc := 54) dX11_whose_54 rfl ?_
      refine gq_aload_n (pc := 56) dX11_whose_56 rfl ?_
      refine gq_getr (pc := 57) dX11_whose_57 fl_X11_60_11 sh_0 rfl ?_
      refine kq_get11 (pw := 25) (pc := 60) (by decide) dX11_whose_60 fl_X11_119_10 ?_
      rw [e2]
      refine gq_ic_ge (pc := 63) 97 dX11_whose_63 (by decide) (fun h_63 => ?_) (fun h_63 => ?_)
      · refine gq_iload_n (pc := 97) dX11_whose_97 rfl ?_
        refine gq_if_ne (pc := 98) 106 dX11_whose_98 (by decide) (fun h_98 => ?_) (fun h_98 => ?_)
        · refine gq_iload (pc := 106) dX11_whose_106 rfl ?_
          refine gq_rS1i (pc := 108) dX11_whose_108 cs_X11_242 (k_bc hk hk2) ⟨by decide, by decide⟩ (Nat.le_of_ble_eq_true rfl) ?_
          exact gq_iret (pc := 111) rfl dX11_whose_111 ⟨rfl, rfl⟩
        · exact absurd h_98 (by decide)
      · exact absurd (Int32.le_refl _) h_63
    | succ m ih =>
      intro i hi
      have hr : p_ok (ge_wS g (g 72) r w V n i) (c + 41) V r := p_ok_o (fun q hq => ge_wS_o (by omega) i) h
      have hn' : ge_wS g (g 72) r w V n i 71 1 = nI n := by rw [ge_wS_o (by decide)]; exact hn
      have hc := c_couldBe_2 (X := X) (x := x) (hb := hb) hr e2 hE hw (show i < E by omega) hn2 hn'
      have h2 : ge_wS g (g 72) r w V n i 72 = g 72 := ge_wS_o (by decide) i
      rw [h2] at hc
      have q := ih (i + 1) (by omega)
      have st1 : ge_tS (ge_wS g (g 72) r w V n i) r w i V (p_hp n (p_ju (g 72) (p_sE r i) n 0)) = ge_wS g (g 72) r w V n (i + 1) := rfl
      rw [st1] at hc
      refine gq_iload (pc := 54) dX11_whose_54 rfl ?_
      refine gq_aload_n (pc := 56) dX11_whose_56 rfl ?_
      refine gq_getr (pc := 57) dX11_whose_57 fl_X11_60_11 sh_0 rfl ?_
      refine kq_get11 (pw := 25) (pc := 60) (by decide) dX11_whose_60 fl_X11_119_10 ?_
      rw [e2]
      refine gq_ic_ge (pc := 63) 97 dX11_whose_63 (by decide) (fun h_63 => ?_) (fun h_63 => ?_)
      · exact absurd ((nI_leI (a := E) (b := i) (by omega) (by omega)).mp h_63) (by omega)
      · refine gq_aload_n (pc := 66) dX11_whose_66 rfl ?_
        refine gq_iload (pc := 67) dX11_whose_67 rfl ?_
        refine gq_aload_n (pc := 69) dX11_whose_69 rfl ?_
        refine gq_getr (pc := 70) dX11_whose_70 fl_X11_89_11 sh_0 rfl ?_
        refine gq_iload_n (pc := 73) dX11_whose_73 rfl ?_
        refine gq_aald (pc := 74) dX11_whose_74 sh_66 rfl kl_2 rfl (by decide) ?_
        refine gq_iload_n (pc := 75) dX11_whose_75 rfl ?_
        refine gq_rV3i (pc := 76) dX11_whose_76 cv_X11_238 sh_0 hc ⟨by decide, by decide⟩ rfl rfl (Nat.le_of_ble_eq_true rfl) ?_
        refine gq_if_eq (pc := 79) 91 dX11_whose_79 (by decide) (fun h_79 => ?_) (fun h_79 => ?_)
        · refine gq_iinc (pc := 91) (l' := [(5, _), (4, _), (0, _), (1, _), (2, _), (3, _)]) dX11_whose_91 rfl (ge_inc1 i) (by decide) rfl ?_
          refine gq_goto (pc := 94) 54 dX11_whose_94 (by decide) ?_
          rw [p_wsF_n (by rw [p_b_0.mp h_79]; decide)] at q
          refine gq_sub [0, 1, 2, 3, 4, 5] rfl ?_
          exact q
        · refine gq_iload (pc := 82) dX11_whose_82 rfl ?_
          refine gq_iconst (pc := 84) dX11_whose_84 kc_1 ?_
          refine gq_iload (pc := 85) dX11_whose_85 rfl ?_
          refine gq_ishl (pc := 87) dX11_whose_87 ?_
          refine gq_ior (pc := 88) dX11_whose_88 ?_
          refine gq_istore (pc := 89) (l' := [(4, _), (5, _), (0, _), (1, _), (2, _), (3, _)]) dX11_whose_89 (by decide) rfl ?_
          refine gq_iinc (pc := 91) (l' := [(5, _), (4, _), (0, _), (1, _), (2, _), (3, _)]) dX11_whose_91 rfl (ge_inc1 i) (by decide) rfl ?_
          refine gq_goto (pc := 94) 54 dX11_whose_94 (by decide) ?_
          rw [p_wsF_y (p_b_n.mp h_79)] at q
          refine gq_sub [0, 1, 2, 3, 4, 5] rfl ?_
          exact q
  refine gq_iload_n (pc := 0) dX11_whose_0 rfl ?_
  refine gq_rS1i (pc := 1) dX11_whose_1 cs_X11_232 (c_noSheet _) ⟨by decide, by decide⟩ (Nat.le_of_ble_eq_true rfl) ?_
  refine gq_if_ne (pc := 4) 24 dX11_whose_4 (by decide) (fun h_4 => ?_) (fun h_4 => ?_)
  · exact absurd (show p_nt (p_in 2 0 3) = 0 by decide) h_4
  · refine gq_aload_n (pc := 7) dX11_whose_7 rfl ?_
    refine gq_iload_n (pc := 8) dX11_whose_8 rfl ?_
    refine gq_rV1i (pc := 9) dX11_whose_9 cv_X11_157 sh_0 (c_noWearer _) ⟨by decide, by decide⟩ rfl rfl (Nat.le_of_ble_eq_true rfl) ?_
    refine gq_if_ne (pc := 12) 24 dX11_whose_12 (by decide) (fun h_12 => ?_) (fun h_12 => ?_)
    · exact absurd (p_nt_0.mpr (p_in_E rfl hw (by omega) e3)) h_12
    · refine gq_iload_n (pc := 15) dX11_whose_15 rfl ?_
      refine gq_iconst (pc := 16) dX11_whose_16 kc_0 ?_
      refine gq_iconst (pc := 17) dX11_whose_17 kc_1 ?_
      refine gq_rS3i (pc := 18) dX11_whose_18 cs_X11_105 (c_outside _ _ _) ⟨by decide, by decide⟩ (Nat.le_of_ble_eq_true rfl) ?_
      refine gq_if_eq (pc := 21) 30 dX11_whose_21 (by decide) (fun h_21 => ?_) (fun h_21 => ?_)
      · refine gq_aload_n (pc := 30) dX11_whose_30 rfl ?_
        refine gq_getr (pc := 31) dX11_whose_31 fl_X11_89_11 sh_0 rfl ?_
        refine gq_iload_n (pc := 34) dX11_whose_34 rfl ?_
        refine gq_aald (pc := 35) dX11_whose_35 sh_66 rfl kl_2 rfl (by decide) ?_
        refine kq_geto (pw := 25) (pc := 36) (by decide) dX11_whose_36 fl_X11_235_7 sh_71 rfl (by unfold ge_Z; omega) ?_
        refine gq_if_ne (pc := 39) 48 dX11_whose_39 (by decide) (fun h_39 => ?_) (fun h_39 => ?_)
        · refine gq_iconst (pc := 48) dX11_whose_48 kc_0 ?_
          refine gq_istore (pc := 49) (l' := [(4, _), (0, _), (1, _), (2, _), (3, _)]) dX11_whose_49 (by decide) rfl ?_
          refine gq_iconst (pc := 51) dX11_whose_51 kc_0 ?_
          refine gq_istore (pc := 52) (l' := [(5, _), (4, _), (0, _), (1, _), (2, _), (3, _)]) dX11_whose_52 (by decide) rfl ?_
          refine gq_sub [0, 1, 2, 3, 4, 5] rfl ?_
          exact key E 0 (by omega)
        · exact absurd h_39 hb0
      · exact absurd (show p_nt (p_in 1 0 1) = 0 by decide) h_21
set_option maxHeartbeats 400000 in
theorem c_whose_no_2 {v a : Int32} (h1 : ¬ p_in v 0 (r 3 - 1) = 0) (h2 : ¬ p_in a 0 1 = 0) (h : g 71 2 = 0) : ge_N X ge_SH YX11_whose 7 [.ref (ge_ad X.1 0), .int 2, .int v, .int a] (ge_k g 25 r x hb) (some (.int (-1000000000 - 2))) (ge_k (ge_up g 75 2 (g 75 2 + 1)) 25 r x hb) := by
  refine gq_ofB (l := [(0, .ref (ge_ad X.1 0)), (1, .int 2), (2, .int v), (3, .int a)]) (by decide) (Nat.le_of_ble_eq_true rfl) rfl ?_
  refine gq_iload_n (pc := 0) dX11_whose_0 rfl ?_
  refine gq_rS1i (pc := 1) dX11_whose_1 cs_X11_232 (c_noSheet _) ⟨by decide, by decide⟩ (Nat.le_of_ble_eq_true rfl) ?_
  refine gq_if_ne (pc := 4) 24 dX11_whose_4 (by decide) (fun h_4 => ?_) (fun h_4 => ?_)
  · exact absurd (show p_nt (p_in 2 0 3) = 0 by decide) h_4
  · refine gq_aload_n (pc := 7) dX11_whose_7 rfl ?_
    refine gq_iload_n (pc := 8) dX11_whose_8 rfl ?_
    refine gq_rV1i (pc := 9) dX11_whose_9 cv_X11_157 sh_0 (c_noWearer _) ⟨by decide, by decide⟩ rfl rfl (Nat.le_of_ble_eq_true rfl) ?_
    refine gq_if_ne (pc := 12) 24 dX11_whose_12 (by decide) (fun h_12 => ?_) (fun h_12 => ?_)
    · exact absurd (p_nt_0.mpr h1) h_12
    · refine gq_iload_n (pc := 15) dX11_whose_15 rfl ?_
      refine gq_iconst (pc := 16) dX11_whose_16 kc_0 ?_
      refine gq_iconst (pc := 17) dX11_whose_17 kc_1 ?_
      refine gq_rS3i (pc := 18) dX11_whose_18 cs_X11_105 (c_outside _ _ _) ⟨by decide, by decide⟩ (Nat.le_of_ble_eq_true rfl) ?_
      refine gq_if_eq (pc := 21) 30 dX11_whose_21 (by decide) (fun h_21 => ?_) (fun h_21 => ?_)
      · refine gq_aload_n (pc := 30) dX11_whose_30 rfl ?_
        refine gq_getr (pc := 31) dX11_whose_31 fl_X11_89_11 sh_0 rfl ?_
        refine gq_iload_n (pc := 34) dX11_whose_34 rfl ?_
        refine gq_aald (pc := 35) dX11_whose_35 sh_66 rfl kl_2 rfl (by decide) ?_
        refine kq_geto (pw := 25) (pc := 36) (by decide) dX11_whose_36 fl_X11_235_7 sh_71 rfl (by unfold ge_Z; omega) ?_
        refine gq_if_ne (pc := 39) 48 dX11_whose_39 (by decide) (fun h_39 => ?_) (fun h_39 => ?_)
        · exact absurd h h_39
        · refine gq_aload_n (pc := 42) dX11_whose_42 rfl ?_
          refine gq_iconst (pc := 43) dX11_whose_43 kc_2 ?_
          refine gq_rV1i (pc := 44) dX11_whose_44 cv_X11_109 sh_0 (c_error kl_2 (by decide)) ⟨by decide, by decide⟩ rfl rfl (Nat.le_of_ble_eq_true rfl) ?_
          exact gq_iret (pc := 47) rfl dX11_whose_47 ⟨rfl, rfl⟩
      · exact absurd (p_nt_0.mpr h2) h_21
set_option maxHeartbeats 1000000 in
theorem c_couldBe_3 {w e n : Nat} (h : p_ok g (c + 41) V r) (e2 : r 2 = nI E) (hE : E ≤ 8) (hw : w < V) (he : e < E) (hn2 : n ≤ 40) (hn : g 73 1 = nI n) : ge_N X ge_SH YX11_couldBe 6 [.ref (ge_ad X.1 0), .int (nI e), .ref (ge_ad X.1 73), .int (nI w)] (ge_k g 25 r x hb) (some (.int (p_b (p_so (g 74) r n e)))) (ge_k (ge_tS g r w e V (p_hp n (p_ju (g 74) (p_sE r e) n 0))) 25 r x hb) := by
  have hV := h.2.2.1
  have hS := p_okS_alone h e2 hE hw he
  have ao : ∀ i, (i < 50 ∨ 74 ≤ i) → p_alone r w e i = r i := fun i hi => p_alone_o h (by omega) hw hi
  refine gq_ofB (l := [(0, .ref (ge_ad X.1 0)), (1, .int (nI e)), (2, .ref (ge_ad X.1 73)), (3, .int (nI w))]) (by decide) (Nat.le_of_ble_eq_true rfl) rfl ?_
  have key : ∀ (m i : Nat), i + m = n → p_ju (g 74) (p_sE r e) m i = p_ju (g 74) (p_sE r e) n 0 → ge_B X ge_SH YX11_couldBe 6 (fun v2 g2 => v2 = (some (.int (p_b (p_so (g 74) r n e)))) ∧ g2 = (ge_k (ge_tS g r w e V (p_hp n (p_ju (g 74) (p_sE r e) n 0))) 25 r x hb)) 31 [(4, .int (nI i)), (0, .ref (ge_ad X.1 0)), (1, .int (nI e)), (2, .ref (ge_ad X.1 73)), (3, .int (nI w))] [] (ge_k (ge_tS g r w e V (i)) 25 r x hb) := by
    intro m
    induction m with
    | zero =>
      intro i hi hR
      obtain rfl : i = n := hi
      have hR : i = p_ju (g 74) (p_sE r e) i 0 := hR
      refine gq_iload (pc := 31) dX11_couldBe_31 rfl ?_
      refine gq_aload_n (pc := 33) dX11_couldBe_33 rfl ?_
      refine kq_geto (pw := 25) (pc := 34) (by decide) dX11_couldBe_34 fl_X11_182_7 sh_73 rfl (by unfold ge_Z; omega) ?_
      refine gq_tov (v := nI i) (by rw [ge_tS_o (by decide)]; exact hn.symm) ?_
      refine gq_ic_ge (pc := 37) 75 dX11_couldBe_37 (by decide) (fun h_37 => ?_) (fun h_37 => ?_)
      · refine gq_iconst (pc := 75) dX11_couldBe_75 kc_1 ?_
        exact gq_zret (pc := 76) rfl rfl dX11_couldBe_76 ⟨by unfold p_so; rw [← hR, decide_eq_true rfl]; rfl, by rw [← hR]; unfold p_hp; rw [if_pos rfl]⟩
      · exact absurd (Int32.le_refl _) h_37
    | succ m ih =>
      intro i hi hR
      have hS2 : p_okS g (c + (41 - i) + i) V (p_alone r w e) w e := by rw [show c + (41 - i) + i = c + 41 by omega]; exact hS
      have hat := p_hhS_at (hb := g 44) (n := i) (w := w) (e := e) (r := p_alone r w e) r (ao 0 (by omega)) (ao 6 (by omega)) (fun i hi => ao i (by omega)) (fun k hk => ao (18 + 4 * e + k) (by omega)) hS2
      refine gq_iload (pc := 31) dX11_couldBe_31 rfl ?_
      refine gq_aload_n (pc := 33) dX11_couldBe_33 rfl ?_
      refine kq_geto (pw := 25) (pc := 34) (by decide) dX11_couldBe_34 fl_X11_182_7 sh_73 rfl (by unfold ge_Z; omega) ?_
      refine gq_tov (v := nI n) (by rw [ge_tS_o (by decide)]; exact hn.symm) ?_
      refine gq_ic_ge (pc := 37) 75 dX11_couldBe_37 (by decide) (fun h_37 => ?_) (fun h_37 => ?_)
      · exact absurd ((nI_leI (a := n) (b := i) (by omega) (by omega)).mp h_37) (by omega)
      · refine gq_aload_n (pc := 40) dX11_couldBe_40 rfl ?_
        refine gq_getr (pc := 41) dX11_couldBe_41 fl_X11_64_11 sh_0 rfl ?_
        refine gq_iconst (pc := 44) dX11_couldBe_44 kc_1 ?_
        refine gq_rV1v (pc := 45) dX11_couldBe_45 cv_X11_214 sh_35 (c_tS1 (c := c + (40 - i)) (by rw [show c + (40 - i) + (i + 1) = c + 41 by omega]; exact hS)) ⟨by decide, by decide⟩ rfl rfl (Nat.le_of_ble_eq_true rfl) ?_
        refine gq_aload_n (pc := 48) dX11_couldBe_48 rfl ?_
        refine gq_getr (pc := 49) dX11_couldBe_49 fl_X11_64_11 sh_0 rfl ?_
        refine gq_getr (pc := 52) dX11_couldBe_52 fl_X11_229_10 sh_35 rfl ?_
        refine gq_iload_n (pc := 55) dX11_couldBe_55 rfl ?_
        refine kt_ald9 (pc := 56) dX11_couldBe_56 rfl (by first | decide | omega) ?_
        rw [hat]
        refine gq_aload_n (pc := 57) dX11_couldBe_57 rfl ?_
        refine gq_getr (pc := 58) dX11_couldBe_58 fl_X11_297_7 sh_73 rfl ?_
        refine gq_iload (pc := 61) dX11_couldBe_61 rfl ?_
        refine kq_aldo (pw := 25) (pc := 63) (by decide) dX11_couldBe_63 sh_74 (by decide) rfl (by first | decide | omega) (by decide) ?_
        refine gq_tov (v := g 74 i) (by first | (rw [ge_tS_o (by decide)]; done) | (rw [ge_k_o _ _ _ _ _ (by decide)]; done)) ?_
        refine gq_ic_eq (pc := 64) 69 dX11_couldBe_64 (by decide) (fun h_64 => ?_) (fun h_64 => ?_)
        · refine gq_iinc (pc := 69) (l' := [(4, _), (0, _), (1, _), (2, _), (3, _)]) dX11_couldBe_69 rfl (ge_inc1 i) (by decide) rfl ?_
          refine gq_goto (pc := 72) 31 dX11_couldBe_72 (by decide) ?_
          refine gq_sub [0, 1, 2, 3, 4] rfl ?_
          exact ih (i + 1) (by omega) (by rw [← hR]; exact (if_pos h_64.symm).symm)
        · have hR2 : p_ju (g 74) (p_sE r e) (m + 1) i = i := if_neg (fun q => h_64 q.symm)
          rw [hR2] at hR
          refine gq_iconst (pc := 67) dX11_couldBe_67 kc_0 ?_
          exact gq_zret (pc := 68) rfl rfl dX11_couldBe_68 ⟨by unfold p_so; rw [← hR, decide_eq_false (by omega)]; rfl, by rw [← hR]; unfold p_hp; rw [if_neg (by omega)]; rfl⟩
  refine gq_aload_n (pc := 0) dX11_couldBe_0 rfl ?_
  refine gq_getr (pc := 1) dX11_couldBe_1 fl_X11_64_11 sh_0 rfl ?_
  refine gq_aload_n (pc := 4) dX11_couldBe_4 rfl ?_
  refine gq_getr (pc := 5) dX11_couldBe_5 fl_X11_60_11 sh_0 rfl ?_
  refine gq_rV1v (pc := 8) dX11_couldBe_8 cv_X11_223 sh_35 c_cp ⟨by decide, by decide⟩ rfl rfl (Nat.le_of_ble_eq_true rfl) ?_
  refine gq_aload_n (pc := 11) dX11_couldBe_11 rfl ?_
  refine gq_getr (pc := 12) dX11_couldBe_12 fl_X11_64_11 sh_0 rfl ?_
  refine gq_iload_n (pc := 15) dX11_couldBe_15 rfl ?_
  refine gq_iload_n (pc := 16) dX11_couldBe_16 rfl ?_
  refine gq_rV2v (pc := 17) dX11_couldBe_17 cv_X11_271 sh_35 (c_fitA h rfl hw (by omega)) ⟨by decide, by decide⟩ rfl rfl (Nat.le_of_ble_eq_true rfl) ?_
  refine gq_aload_n (pc := 20) dX11_couldBe_20 rfl ?_
  refine gq_getr (pc := 21) dX11_couldBe_21 fl_X11_64_11 sh_0 rfl ?_
  refine gq_iload_n (pc := 24) dX11_couldBe_24 rfl ?_
  refine kt_put18 (pc := 25) dX11_couldBe_25 fp_X11_327_10 ?_
  refine gq_iconst (pc := 28) dX11_couldBe_28 kc_0 ?_
  refine gq_istore (pc := 29) (l' := [(4, _), (0, _), (1, _), (2, _), (3, _)]) dX11_couldBe_29 (by decide) rfl ?_
  refine gq_sub [0, 1, 2, 3, 4] rfl ?_
  exact key n 0 (by omega) rfl
set_option maxHeartbeats 1000000 in
theorem c_whose_ok0_3 {v : Int32} {w n : Nat} (h : p_ok g (c + 41) V r) (e2 : r 2 = nI E) (hE : E ≤ 8) (hv : v = nI w) (hw : w < V) (hn2 : n ≤ 40) (hn : g 73 1 = nI n) (hb0 : ¬ g 73 2 = 0) : ge_N X ge_SH YX11_whose 7 [.ref (ge_ad X.1 0), .int 3, .int v, .int 0] (ge_k g 25 r x hb) (some (.int (p_wsF (p_so (g 74) r n) E))) (ge_k (ge_wS g (g 74) r w V n (E)) 25 r x hb) := by
  have hV := h.2.2.1
  have e3 := h.2.1
  subst hv
  refine gq_ofB (l := [(0, .ref (ge_ad X.1 0)), (1, .int 3), (2, .int (nI w)), (3, .int 0)]) (by decide) (Nat.le_of_ble_eq_true rfl) rfl ?_
  have key : ∀ (m i : Nat), i + m = E → ge_B X ge_SH YX11_whose 7 (fun v2 g2 => v2 = (some (.int (p_wsF (p_so (g 74) r n) E))) ∧ g2 = (ge_k (ge_wS g (g 74) r w V n (E)) 25 r x hb)) 54 [(5, .int (nI i)), (4, .int (p_wsF (p_so (g 74) r n) i)), (0, .ref (ge_ad X.1 0)), (1, .int 3), (2, .int (nI w)), (3, .int 0)] [] (ge_k (ge_wS g (g 74) r w V n (i)) 25 r x hb) := by
    intro m
    induction m with
    | zero =>
      intro i hi
      obtain rfl : i = E := hi
      refine gq_iload (pc := 54) dX11_whose_54 rfl ?_
      refine gq_aload_n (pc := 56) dX11_whose_56 rfl ?_
      refine gq_getr (pc := 57) dX11_whose_57 fl_X11_60_11 sh_0 rfl ?_
      refine kq_get11 (pw := 25) (pc := 60) (by decide) dX11_whose_60 fl_X11_119_10 ?_
      rw [e2]
      refine gq_ic_ge (pc := 63) 97 dX11_whose_63 (by decide) (fun h_63 => ?_) (fun h_63 => ?_)
      · refine gq_iload_n (pc := 97) dX11_whose_97 rfl ?_
        refine gq_if_ne (pc := 98) 106 dX11_whose_98 (by decide) (fun h_98 => ?_) (fun h_98 => ?_)
        · exact absurd h_98 (by decide)
        · refine gq_iload (pc := 101) dX11_whose_101 rfl ?_
          refine gq_goto (pc := 103) 111 dX11_whose_103 (by decide) ?_
          exact gq_iret (pc := 111) rfl dX11_whose_111 ⟨rfl, rfl⟩
      · exact absurd (Int32.le_refl _) h_63
    | succ m ih =>
      intro i hi
      have hr : p_ok (ge_wS g (g 74) r w V n i) (c + 41) V r := p_ok_o (fun q hq => ge_wS_o (by omega) i) h
      have hn' : ge_wS g (g 74) r w V n i 73 1 = nI n := by rw [ge_wS_o (by decide)]; exact hn
      have hc := c_couldBe_3 (X := X) (x := x) (hb := hb) hr e2 hE hw (show i < E by omega) hn2 hn'
      have h2 : ge_wS g (g 74) r w V n i 74 = g 74 := ge_wS_o (by decide) i
      rw [h2] at hc
      have q := ih (i + 1) (by omega)
      have st1 : ge_tS (ge_wS g (g 74) r w V n i) r w i V (p_hp n (p_ju (g 74) (p_sE r i) n 0)) = ge_wS g (g 74) r w V n (i + 1) := rfl
      rw [st1] at hc
      refine gq_iload (pc := 54) dX11_whose_54 rfl ?_
      refine gq_aload_n (pc := 56) dX11_whose_56 rfl ?_
      refine gq_getr (pc := 57) dX11_whose_57 fl_X11_60_11 sh_0 rfl ?_
      refine kq_get11 (pw := 25) (pc := 60) (by decide) dX11_whose_60 fl_X11_119_10 ?_
      rw [e2]
      refine gq_ic_ge (pc := 63) 97 dX11_whose_63 (by decide) (fun h_63 => ?_) (fun h_63 => ?_)
      · exact absurd ((nI_leI (a := E) (b := i) (by omega) (by omega)).mp h_63) (by omega)
      · refine gq_aload_n (pc := 66) dX11_whose_66 rfl ?_
        refine gq_iload (pc := 67) dX11_whose_67 rfl ?_
        refine gq_aload_n (pc := 69) dX11_whose_69 rfl ?_
        refine gq_getr (pc := 70) dX11_whose_70 fl_X11_89_11 sh_0 rfl ?_
        refine gq_iload_n (pc := 73) dX11_whose_73 rfl ?_
        refine gq_aald (pc := 74) dX11_whose_74 sh_66 rfl kl_3 rfl (by decide) ?_
        refine gq_iload_n (pc := 75) dX11_whose_75 rfl ?_
        refine gq_rV3i (pc := 76) dX11_whose_76 cv_X11_238 sh_0 hc ⟨by decide, by decide⟩ rfl rfl (Nat.le_of_ble_eq_true rfl) ?_
        refine gq_if_eq (pc := 79) 91 dX11_whose_79 (by decide) (fun h_79 => ?_) (fun h_79 => ?_)
        · refine gq_iinc (pc := 91) (l' := [(5, _), (4, _), (0, _), (1, _), (2, _), (3, _)]) dX11_whose_91 rfl (ge_inc1 i) (by decide) rfl ?_
          refine gq_goto (pc := 94) 54 dX11_whose_94 (by decide) ?_
          rw [p_wsF_n (by rw [p_b_0.mp h_79]; decide)] at q
          refine gq_sub [0, 1, 2, 3, 4, 5] rfl ?_
          exact q
        · refine gq_iload (pc := 82) dX11_whose_82 rfl ?_
          refine gq_iconst (pc := 84) dX11_whose_84 kc_1 ?_
          refine gq_iload (pc := 85) dX11_whose_85 rfl ?_
          refine gq_ishl (pc := 87) dX11_whose_87 ?_
          refine gq_ior (pc := 88) dX11_whose_88 ?_
          refine gq_istore (pc := 89) (l' := [(4, _), (5, _), (0, _), (1, _), (2, _), (3, _)]) dX11_whose_89 (by decide) rfl ?_
          refine gq_iinc (pc := 91) (l' := [(5, _), (4, _), (0, _), (1, _), (2, _), (3, _)]) dX11_whose_91 rfl (ge_inc1 i) (by decide) rfl ?_
          refine gq_goto (pc := 94) 54 dX11_whose_94 (by decide) ?_
          rw [p_wsF_y (p_b_n.mp h_79)] at q
          refine gq_sub [0, 1, 2, 3, 4, 5] rfl ?_
          exact q
  refine gq_iload_n (pc := 0) dX11_whose_0 rfl ?_
  refine gq_rS1i (pc := 1) dX11_whose_1 cs_X11_232 (c_noSheet _) ⟨by decide, by decide⟩ (Nat.le_of_ble_eq_true rfl) ?_
  refine gq_if_ne (pc := 4) 24 dX11_whose_4 (by decide) (fun h_4 => ?_) (fun h_4 => ?_)
  · exact absurd (show p_nt (p_in 3 0 3) = 0 by decide) h_4
  · refine gq_aload_n (pc := 7) dX11_whose_7 rfl ?_
    refine gq_iload_n (pc := 8) dX11_whose_8 rfl ?_
    refine gq_rV1i (pc := 9) dX11_whose_9 cv_X11_157 sh_0 (c_noWearer _) ⟨by decide, by decide⟩ rfl rfl (Nat.le_of_ble_eq_true rfl) ?_
    refine gq_if_ne (pc := 12) 24 dX11_whose_12 (by decide) (fun h_12 => ?_) (fun h_12 => ?_)
    · exact absurd (p_nt_0.mpr (p_in_E rfl hw (by omega) e3)) h_12
    · refine gq_iload_n (pc := 15) dX11_whose_15 rfl ?_
      refine gq_iconst (pc := 16) dX11_whose_16 kc_0 ?_
      refine gq_iconst (pc := 17) dX11_whose_17 kc_1 ?_
      refine gq_rS3i (pc := 18) dX11_whose_18 cs_X11_105 (c_outside _ _ _) ⟨by decide, by decide⟩ (Nat.le_of_ble_eq_true rfl) ?_
      refine gq_if_eq (pc := 21) 30 dX11_whose_21 (by decide) (fun h_21 => ?_) (fun h_21 => ?_)
      · refine gq_aload_n (pc := 30) dX11_whose_30 rfl ?_
        refine gq_getr (pc := 31) dX11_whose_31 fl_X11_89_11 sh_0 rfl ?_
        refine gq_iload_n (pc := 34) dX11_whose_34 rfl ?_
        refine gq_aald (pc := 35) dX11_whose_35 sh_66 rfl kl_3 rfl (by decide) ?_
        refine kq_geto (pw := 25) (pc := 36) (by decide) dX11_whose_36 fl_X11_235_7 sh_73 rfl (by unfold ge_Z; omega) ?_
        refine gq_if_ne (pc := 39) 48 dX11_whose_39 (by decide) (fun h_39 => ?_) (fun h_39 => ?_)
        · refine gq_iconst (pc := 48) dX11_whose_48 kc_0 ?_
          refine gq_istore (pc := 49) (l' := [(4, _), (0, _), (1, _), (2, _), (3, _)]) dX11_whose_49 (by decide) rfl ?_
          refine gq_iconst (pc := 51) dX11_whose_51 kc_0 ?_
          refine gq_istore (pc := 52) (l' := [(5, _), (4, _), (0, _), (1, _), (2, _), (3, _)]) dX11_whose_52 (by decide) rfl ?_
          refine gq_sub [0, 1, 2, 3, 4, 5] rfl ?_
          exact key E 0 (by omega)
        · exact absurd h_39 hb0
      · exact absurd (show p_nt (p_in 0 0 1) = 0 by decide) h_21
set_option maxHeartbeats 1000000 in
theorem c_whose_ok1_3 {v : Int32} {w n : Nat} (h : p_ok g (c + 41) V r) (e2 : r 2 = nI E) (hE : E ≤ 8) (hv : v = nI w) (hw : w < V) (hn2 : n ≤ 40) (hn : g 73 1 = nI n) (hb0 : ¬ g 73 2 = 0) {k : Nat} (hk : p_wsF (p_so (g 74) r n) E = nI k) (hk2 : k < 1024) : ge_N X ge_SH YX11_whose 7 [.ref (ge_ad X.1 0), .int 3, .int v, .int 1] (ge_k g 25 r x hb) (some (.int (nI (p_pop k)))) (ge_k (ge_wS g (g 74) r w V n (E)) 25 r x hb) := by
  have hV := h.2.2.1
  have e3 := h.2.1
  subst hv
  refine gq_ofB (l := [(0, .ref (ge_ad X.1 0)), (1, .int 3), (2, .int (nI w)), (3, .int 1)]) (by decide) (Nat.le_of_ble_eq_true rfl) rfl ?_
  have key : ∀ (m i : Nat), i + m = E → ge_B X ge_SH YX11_whose 7 (fun v2 g2 => v2 = (some (.int (nI (p_pop k)))) ∧ g2 = (ge_k (ge_wS g (g 74) r w V n (E)) 25 r x hb)) 54 [(5, .int (nI i)), (4, .int (p_wsF (p_so (g 74) r n) i)), (0, .ref (ge_ad X.1 0)), (1, .int 3), (2, .int (nI w)), (3, .int 1)] [] (ge_k (ge_wS g (g 74) r w V n (i)) 25 r x hb) := by
    intro m
    induction m with
    | zero =>
      intro i hi
      obtain rfl : i = E := hi
      refine gq_iload (pc := 54) dX11_whose_54 rfl ?_
      refine gq_aload_n (pc := 56) dX11_whose_56 rfl ?_
      refine gq_getr (pc := 57) dX11_whose_57 fl_X11_60_11 sh_0 rfl ?_
      refine kq_get11 (pw := 25) (pc := 60) (by decide) dX11_whose_60 fl_X11_119_10 ?_
      rw [e2]
      refine gq_ic_ge (pc := 63) 97 dX11_whose_63 (by decide) (fun h_63 => ?_) (fun h_63 => ?_)
      · refine gq_iload_n (pc := 97) dX11_whose_97 rfl ?_
        refine gq_if_ne (pc := 98) 106 dX11_whose_98 (by decide) (fun h_98 => ?_) (fun h_98 => ?_)
        · refine gq_iload (pc := 106) dX11_whose_106 rfl ?_
          refine gq_rS1i (pc := 108) dX11_whose_108 cs_X11_242 (k_bc hk hk2) ⟨by decide, by decide⟩ (Nat.le_of_ble_eq_true rfl) ?_
          exact gq_iret (pc := 111) rfl dX11_whose_111 ⟨rfl, rfl⟩
        · exact absurd h_98 (by decide)
      · exact absurd (Int32.le_refl _) h_63
    | succ m ih =>
      intro i hi
      have hr : p_ok (ge_wS g (g 74) r w V n i) (c + 41) V r := p_ok_o (fun q hq => ge_wS_o (by omega) i) h
      have hn' : ge_wS g (g 74) r w V n i 73 1 = nI n := by rw [ge_wS_o (by decide)]; exact hn
      have hc := c_couldBe_3 (X := X) (x := x) (hb := hb) hr e2 hE hw (show i < E by omega) hn2 hn'
      have h2 : ge_wS g (g 74) r w V n i 74 = g 74 := ge_wS_o (by decide) i
      rw [h2] at hc
      have q := ih (i + 1) (by omega)
      have st1 : ge_tS (ge_wS g (g 74) r w V n i) r w i V (p_hp n (p_ju (g 74) (p_sE r i) n 0)) = ge_wS g (g 74) r w V n (i + 1) := rfl
      rw [st1] at hc
      refine gq_iload (pc := 54) dX11_whose_54 rfl ?_
      refine gq_aload_n (pc := 56) dX11_whose_56 rfl ?_
      refine gq_getr (pc := 57) dX11_whose_57 fl_X11_60_11 sh_0 rfl ?_
      refine kq_get11 (pw := 25) (pc := 60) (by decide) dX11_whose_60 fl_X11_119_10 ?_
      rw [e2]
      refine gq_ic_ge (pc := 63) 97 dX11_whose_63 (by decide) (fun h_63 => ?_) (fun h_63 => ?_)
      · exact absurd ((nI_leI (a := E) (b := i) (by omega) (by omega)).mp h_63) (by omega)
      · refine gq_aload_n (pc := 66) dX11_whose_66 rfl ?_
        refine gq_iload (pc := 67) dX11_whose_67 rfl ?_
        refine gq_aload_n (pc := 69) dX11_whose_69 rfl ?_
        refine gq_getr (pc := 70) dX11_whose_70 fl_X11_89_11 sh_0 rfl ?_
        refine gq_iload_n (pc := 73) dX11_whose_73 rfl ?_
        refine gq_aald (pc := 74) dX11_whose_74 sh_66 rfl kl_3 rfl (by decide) ?_
        refine gq_iload_n (pc := 75) dX11_whose_75 rfl ?_
        refine gq_rV3i (pc := 76) dX11_whose_76 cv_X11_238 sh_0 hc ⟨by decide, by decide⟩ rfl rfl (Nat.le_of_ble_eq_true rfl) ?_
        refine gq_if_eq (pc := 79) 91 dX11_whose_79 (by decide) (fun h_79 => ?_) (fun h_79 => ?_)
        · refine gq_iinc (pc := 91) (l' := [(5, _), (4, _), (0, _), (1, _), (2, _), (3, _)]) dX11_whose_91 rfl (ge_inc1 i) (by decide) rfl ?_
          refine gq_goto (pc := 94) 54 dX11_whose_94 (by decide) ?_
          rw [p_wsF_n (by rw [p_b_0.mp h_79]; decide)] at q
          refine gq_sub [0, 1, 2, 3, 4, 5] rfl ?_
          exact q
        · refine gq_iload (pc := 82) dX11_whose_82 rfl ?_
          refine gq_iconst (pc := 84) dX11_whose_84 kc_1 ?_
          refine gq_iload (pc := 85) dX11_whose_85 rfl ?_
          refine gq_ishl (pc := 87) dX11_whose_87 ?_
          refine gq_ior (pc := 88) dX11_whose_88 ?_
          refine gq_istore (pc := 89) (l' := [(4, _), (5, _), (0, _), (1, _), (2, _), (3, _)]) dX11_whose_89 (by decide) rfl ?_
          refine gq_iinc (pc := 91) (l' := [(5, _), (4, _), (0, _), (1, _), (2, _), (3, _)]) dX11_whose_91 rfl (ge_inc1 i) (by decide) rfl ?_
          refine gq_goto (pc := 94) 54 dX11_whose_94 (by decide) ?_
          rw [p_wsF_y (p_b_n.mp h_79)] at q
          refine gq_sub [0, 1, 2, 3, 4, 5] rfl ?_
          exact q
  refine gq_iload_n (pc := 0) dX11_whose_0 rfl ?_
  refine gq_rS1i (pc := 1) dX11_whose_1 cs_X11_232 (c_noSheet _) ⟨by decide, by decide⟩ (Nat.le_of_ble_eq_true rfl) ?_
  refine gq_if_ne (pc := 4) 24 dX11_whose_4 (by decide) (fun h_4 => ?_) (fun h_4 => ?_)
  · exact absurd (show p_nt (p_in 3 0 3) = 0 by decide) h_4
  · refine gq_aload_n (pc := 7) dX11_whose_7 rfl ?_
    refine gq_iload_n (pc := 8) dX11_whose_8 rfl ?_
    refine gq_rV1i (pc := 9) dX11_whose_9 cv_X11_157 sh_0 (c_noWearer _) ⟨by decide, by decide⟩ rfl rfl (Nat.le_of_ble_eq_true rfl) ?_
    refine gq_if_ne (pc := 12) 24 dX11_whose_12 (by decide) (fun h_12 => ?_) (fun h_12 => ?_)
    · exact absurd (p_nt_0.mpr (p_in_E rfl hw (by omega) e3)) h_12
    · refine gq_iload_n (pc := 15) dX11_whose_15 rfl ?_
      refine gq_iconst (pc := 16) dX11_whose_16 kc_0 ?_
      refine gq_iconst (pc := 17) dX11_whose_17 kc_1 ?_
      refine gq_rS3i (pc := 18) dX11_whose_18 cs_X11_105 (c_outside _ _ _) ⟨by decide, by decide⟩ (Nat.le_of_ble_eq_true rfl) ?_
      refine gq_if_eq (pc := 21) 30 dX11_whose_21 (by decide) (fun h_21 => ?_) (fun h_21 => ?_)
      · refine gq_aload_n (pc := 30) dX11_whose_30 rfl ?_
        refine gq_getr (pc := 31) dX11_whose_31 fl_X11_89_11 sh_0 rfl ?_
        refine gq_iload_n (pc := 34) dX11_whose_34 rfl ?_
        refine gq_aald (pc := 35) dX11_whose_35 sh_66 rfl kl_3 rfl (by decide) ?_
        refine kq_geto (pw := 25) (pc := 36) (by decide) dX11_whose_36 fl_X11_235_7 sh_73 rfl (by unfold ge_Z; omega) ?_
        refine gq_if_ne (pc := 39) 48 dX11_whose_39 (by decide) (fun h_39 => ?_) (fun h_39 => ?_)
        · refine gq_iconst (pc := 48) dX11_whose_48 kc_0 ?_
          refine gq_istore (pc := 49) (l' := [(4, _), (0, _), (1, _), (2, _), (3, _)]) dX11_whose_49 (by decide) rfl ?_
          refine gq_iconst (pc := 51) dX11_whose_51 kc_0 ?_
          refine gq_istore (pc := 52) (l' := [(5, _), (4, _), (0, _), (1, _), (2, _), (3, _)]) dX11_whose_52 (by decide) rfl ?_
          refine gq_sub [0, 1, 2, 3, 4, 5] rfl ?_
          exact key E 0 (by omega)
        · exact absurd h_39 hb0
      · exact absurd (show p_nt (p_in 1 0 1) = 0 by decide) h_21
set_option maxHeartbeats 400000 in
theorem c_whose_no_3 {v a : Int32} (h1 : ¬ p_in v 0 (r 3 - 1) = 0) (h2 : ¬ p_in a 0 1 = 0) (h : g 73 2 = 0) : ge_N X ge_SH YX11_whose 7 [.ref (ge_ad X.1 0), .int 3, .int v, .int a] (ge_k g 25 r x hb) (some (.int (-1000000000 - 2))) (ge_k (ge_up g 75 2 (g 75 2 + 1)) 25 r x hb) := by
  refine gq_ofB (l := [(0, .ref (ge_ad X.1 0)), (1, .int 3), (2, .int v), (3, .int a)]) (by decide) (Nat.le_of_ble_eq_true rfl) rfl ?_
  refine gq_iload_n (pc := 0) dX11_whose_0 rfl ?_
  refine gq_rS1i (pc := 1) dX11_whose_1 cs_X11_232 (c_noSheet _) ⟨by decide, by decide⟩ (Nat.le_of_ble_eq_true rfl) ?_
  refine gq_if_ne (pc := 4) 24 dX11_whose_4 (by decide) (fun h_4 => ?_) (fun h_4 => ?_)
  · exact absurd (show p_nt (p_in 3 0 3) = 0 by decide) h_4
  · refine gq_aload_n (pc := 7) dX11_whose_7 rfl ?_
    refine gq_iload_n (pc := 8) dX11_whose_8 rfl ?_
    refine gq_rV1i (pc := 9) dX11_whose_9 cv_X11_157 sh_0 (c_noWearer _) ⟨by decide, by decide⟩ rfl rfl (Nat.le_of_ble_eq_true rfl) ?_
    refine gq_if_ne (pc := 12) 24 dX11_whose_12 (by decide) (fun h_12 => ?_) (fun h_12 => ?_)
    · exact absurd (p_nt_0.mpr h1) h_12
    · refine gq_iload_n (pc := 15) dX11_whose_15 rfl ?_
      refine gq_iconst (pc := 16) dX11_whose_16 kc_0 ?_
      refine gq_iconst (pc := 17) dX11_whose_17 kc_1 ?_
      refine gq_rS3i (pc := 18) dX11_whose_18 cs_X11_105 (c_outside _ _ _) ⟨by decide, by decide⟩ (Nat.le_of_ble_eq_true rfl) ?_
      refine gq_if_eq (pc := 21) 30 dX11_whose_21 (by decide) (fun h_21 => ?_) (fun h_21 => ?_)
      · refine gq_aload_n (pc := 30) dX11_whose_30 rfl ?_
        refine gq_getr (pc := 31) dX11_whose_31 fl_X11_89_11 sh_0 rfl ?_
        refine gq_iload_n (pc := 34) dX11_whose_34 rfl ?_
        refine gq_aald (pc := 35) dX11_whose_35 sh_66 rfl kl_3 rfl (by decide) ?_
        refine kq_geto (pw := 25) (pc := 36) (by decide) dX11_whose_36 fl_X11_235_7 sh_73 rfl (by unfold ge_Z; omega) ?_
        refine gq_if_ne (pc := 39) 48 dX11_whose_39 (by decide) (fun h_39 => ?_) (fun h_39 => ?_)
        · exact absurd h h_39
        · refine gq_aload_n (pc := 42) dX11_whose_42 rfl ?_
          refine gq_iconst (pc := 43) dX11_whose_43 kc_2 ?_
          refine gq_rV1i (pc := 44) dX11_whose_44 cv_X11_109 sh_0 (c_error kl_2 (by decide)) ⟨by decide, by decide⟩ rfl rfl (Nat.le_of_ble_eq_true rfl) ?_
          exact gq_iret (pc := 47) rfl dX11_whose_47 ⟨rfl, rfl⟩
      · exact absurd (p_nt_0.mpr h2) h_21
set_option maxHeartbeats 400000 in
theorem c_whose_er {s v a : Int32} (h : p_in s 0 3 = 0 ∨ p_in v 0 (r 3 - 1) = 0 ∨ p_in a 0 1 = 0) : ge_N X ge_SH YX11_whose 7 [.ref (ge_ad X.1 0), .int s, .int v, .int a] (ge_k g 25 r x hb) (some (.int (-1000000000 - 1))) (ge_k (ge_up g 75 1 (g 75 1 + 1)) 25 r x hb) := by
  refine gq_ofB (l := [(0, .ref (ge_ad X.1 0)), (1, .int s), (2, .int v), (3, .int a)]) (by decide) (Nat.le_of_ble_eq_true rfl) rfl ?_
  refine gq_iload_n (pc := 0) dX11_whose_0 rfl ?_
  refine gq_rS1i (pc := 1) dX11_whose_1 cs_X11_232 (c_noSheet _) ⟨by decide, by decide⟩ (Nat.le_of_ble_eq_true rfl) ?_
  refine gq_if_ne (pc := 4) 24 dX11_whose_4 (by decide) (fun h_4 => ?_) (fun h_4 => ?_)
  · refine gq_aload_n (pc := 24) dX11_whose_24 rfl ?_
    refine gq_iconst (pc := 25) dX11_whose_25 kc_1 ?_
    refine gq_rV1i (pc := 26) dX11_whose_26 cv_X11_109 sh_0 (c_error kl_1 (by decide)) ⟨by decide, by decide⟩ rfl rfl (Nat.le_of_ble_eq_true rfl) ?_
    exact gq_iret (pc := 29) rfl dX11_whose_29 ⟨rfl, rfl⟩
  · refine gq_aload_n (pc := 7) dX11_whose_7 rfl ?_
    refine gq_iload_n (pc := 8) dX11_whose_8 rfl ?_
    refine gq_rV1i (pc := 9) dX11_whose_9 cv_X11_157 sh_0 (c_noWearer _) ⟨by decide, by decide⟩ rfl rfl (Nat.le_of_ble_eq_true rfl) ?_
    refine gq_if_ne (pc := 12) 24 dX11_whose_12 (by decide) (fun h_12 => ?_) (fun h_12 => ?_)
    · refine gq_aload_n (pc := 24) dX11_whose_24 rfl ?_
      refine gq_iconst (pc := 25) dX11_whose_25 kc_1 ?_
      refine gq_rV1i (pc := 26) dX11_whose_26 cv_X11_109 sh_0 (c_error kl_1 (by decide)) ⟨by decide, by decide⟩ rfl rfl (Nat.le_of_ble_eq_true rfl) ?_
      exact gq_iret (pc := 29) rfl dX11_whose_29 ⟨rfl, rfl⟩
    · refine gq_iload_n (pc := 15) dX11_whose_15 rfl ?_
      refine gq_iconst (pc := 16) dX11_whose_16 kc_0 ?_
      refine gq_iconst (pc := 17) dX11_whose_17 kc_1 ?_
      refine gq_rS3i (pc := 18) dX11_whose_18 cs_X11_105 (c_outside _ _ _) ⟨by decide, by decide⟩ (Nat.le_of_ble_eq_true rfl) ?_
      refine gq_if_eq (pc := 21) 30 dX11_whose_21 (by decide) (fun h_21 => ?_) (fun h_21 => ?_)
      · exact (h.elim (p_nt_0.mp h_4) (fun q => q.elim (p_nt_0.mp h_12) (p_nt_0.mp h_21))).elim
      · refine gq_aload_n (pc := 24) dX11_whose_24 rfl ?_
        refine gq_iconst (pc := 25) dX11_whose_25 kc_1 ?_
        refine gq_rV1i (pc := 26) dX11_whose_26 cv_X11_109 sh_0 (c_error kl_1 (by decide)) ⟨by decide, by decide⟩ rfl rfl (Nat.le_of_ble_eq_true rfl) ?_
        exact gq_iret (pc := 29) rfl dX11_whose_29 ⟨rfl, rfl⟩
set_option maxHeartbeats 400000 in
theorem m_whose_er {s v a : Int32} (h : p_in s 0 3 = 0 ∨ p_in v 0 (r 3 - 1) = 0 ∨ p_in a 0 1 = 0) : ge_N X ge_SH YX12_whose 45 [.ref (ge_ad X.1 76), .int s, .int v, .int a] (ge_m g r f) (some (.int (-1000000001))) (ge_m (ge_up g 81 1 (g 81 1 + 1)) r f) := by
  refine gq_ofB (l := [(0, .ref (ge_ad X.1 76)), (1, .int s), (2, .int v), (3, .int a)]) (by decide) (Nat.le_of_ble_eq_true rfl) rfl ?_
  refine gq_iload_n (pc := 0) dX12_whose_0 rfl ?_
  refine gq_rS1i (pc := 1) dX12_whose_1 cs_X12_203 (k_isSheet _) ⟨by decide, by decide⟩ (Nat.le_of_ble_eq_true rfl) ?_
  refine gq_if_eq (pc := 4) 24 dX12_whose_4 (by decide) (fun h_4 => ?_) (fun h_4 => ?_)
  · refine gq_aload_n (pc := 24) dX12_whose_24 rfl ?_
    refine gq_ldc (pc := 25) dX12_whose_25 kn_X12_53 ?_
    refine gq_rV1i (pc := 27) dX12_whose_27 cv_X12_54 sh_76 (k_errs (j := 1) (by decide) (by decide)) ⟨by decide, by decide⟩ rfl rfl (Nat.le_of_ble_eq_true rfl) ?_
    exact gq_iret (pc := 30) rfl dX12_whose_30 ⟨rfl, rfl⟩
  · refine gq_aload_n (pc := 7) dX12_whose_7 rfl ?_
    refine gq_iload_n (pc := 8) dX12_whose_8 rfl ?_
    refine gq_rV1i (pc := 9) dX12_whose_9 cv_X12_84 sh_76 (k_isWearer _) ⟨by decide, by decide⟩ rfl rfl (Nat.le_of_ble_eq_true rfl) ?_
    refine gq_if_eq (pc := 12) 24 dX12_whose_12 (by decide) (fun h_12 => ?_) (fun h_12 => ?_)
    · refine gq_aload_n (pc := 24) dX12_whose_24 rfl ?_
      refine gq_ldc (pc := 25) dX12_whose_25 kn_X12_53 ?_
      refine gq_rV1i (pc := 27) dX12_whose_27 cv_X12_54 sh_76 (k_errs (j := 1) (by decide) (by decide)) ⟨by decide, by decide⟩ rfl rfl (Nat.le_of_ble_eq_true rfl) ?_
      exact gq_iret (pc := 30) rfl dX12_whose_30 ⟨rfl, rfl⟩
    · refine gq_iload_n (pc := 15) dX12_whose_15 rfl ?_
      refine gq_iconst (pc := 16) dX12_whose_16 kc_0 ?_
      refine gq_iconst (pc := 17) dX12_whose_17 kc_1 ?_
      refine gq_rS3i (pc := 18) dX12_whose_18 cs_X12_41 (k_in _ _ _) ⟨by decide, by decide⟩ (Nat.le_of_ble_eq_true rfl) ?_
      refine gq_if_ne (pc := 21) 31 dX12_whose_21 (by decide) (fun h_21 => ?_) (fun h_21 => ?_)
      · exact (h.elim h_4 (fun q => q.elim h_12 h_21)).elim
      · refine gq_aload_n (pc := 24) dX12_whose_24 rfl ?_
        refine gq_ldc (pc := 25) dX12_whose_25 kn_X12_53 ?_
        refine gq_rV1i (pc := 27) dX12_whose_27 cv_X12_54 sh_76 (k_errs (j := 1) (by decide) (by decide)) ⟨by decide, by decide⟩ rfl rfl (Nat.le_of_ble_eq_true rfl) ?_
        exact gq_iret (pc := 30) rfl dX12_whose_30 ⟨rfl, rfl⟩
set_option maxHeartbeats 400000 in
theorem m_whose_no {s v a : Int32} {S : Nat} (hs : s = nI S) (hS : S ≤ 3) (h1 : ¬ p_in v 0 (r 3 - 1) = 0) (h2 : ¬ p_in a 0 1 = 0) (h : g 82 S = 0) : ge_N X ge_SH YX12_whose 45 [.ref (ge_ad X.1 76), .int s, .int v, .int a] (ge_m g r f) (some (.int (-1000000002))) (ge_m (ge_up g 81 2 (g 81 2 + 1)) r f) := by
  refine gq_ofB (l := [(0, .ref (ge_ad X.1 76)), (1, .int s), (2, .int v), (3, .int a)]) (by decide) (Nat.le_of_ble_eq_true rfl) rfl ?_
  refine gq_iload_n (pc := 0) dX12_whose_0 rfl ?_
  refine gq_rS1i (pc := 1) dX12_whose_1 cs_X12_203 (k_isSheet _) ⟨by decide, by decide⟩ (Nat.le_of_ble_eq_true rfl) ?_
  refine gq_if_eq (pc := 4) 24 dX12_whose_4 (by decide) (fun h_4 => ?_) (fun h_4 => ?_)
  · exact absurd h_4 (p_in_le (N := 3) hs hS (by decide))
  · refine gq_aload_n (pc := 7) dX12_whose_7 rfl ?_
    refine gq_iload_n (pc := 8) dX12_whose_8 rfl ?_
    refine gq_rV1i (pc := 9) dX12_whose_9 cv_X12_84 sh_76 (k_isWearer _) ⟨by decide, by decide⟩ rfl rfl (Nat.le_of_ble_eq_true rfl) ?_
    refine gq_if_eq (pc := 12) 24 dX12_whose_12 (by decide) (fun h_12 => ?_) (fun h_12 => ?_)
    · exact absurd h_12 h1
    · refine gq_iload_n (pc := 15) dX12_whose_15 rfl ?_
      refine gq_iconst (pc := 16) dX12_whose_16 kc_0 ?_
      refine gq_iconst (pc := 17) dX12_whose_17 kc_1 ?_
      refine gq_rS3i (pc := 18) dX12_whose_18 cs_X12_41 (k_in _ _ _) ⟨by decide, by decide⟩ (Nat.le_of_ble_eq_true rfl) ?_
      refine gq_if_ne (pc := 21) 31 dX12_whose_21 (by decide) (fun h_21 => ?_) (fun h_21 => ?_)
      · refine gq_aload_n (pc := 31) dX12_whose_31 rfl ?_
        refine gq_getr (pc := 32) dX12_whose_32 fl_X12_25_12 sh_76 rfl ?_
        refine gq_iload_n (pc := 35) dX12_whose_35 rfl ?_
        refine qm_aldo (pc := 36) dX12_whose_36 sh_82 (by decide) hs (by first | decide | omega) (by decide) ?_
        refine gq_if_ne (pc := 37) 47 dX12_whose_37 (by decide) (fun h_37 => ?_) (fun h_37 => ?_)
        · exact absurd h h_37
        · refine gq_aload_n (pc := 40) dX12_whose_40 rfl ?_
          refine gq_ldc (pc := 41) dX12_whose_41 kn_X12_202 ?_
          refine gq_rV1i (pc := 43) dX12_whose_43 cv_X12_54 sh_76 (k_errs (j := 2) (by decide) (by decide)) ⟨by decide, by decide⟩ rfl rfl (Nat.le_of_ble_eq_true rfl) ?_
          exact gq_iret (pc := 46) rfl dX12_whose_46 ⟨rfl, rfl⟩
      · exact absurd h_21 h2
set_option maxHeartbeats 1000000 in
theorem m_showsSo {s : Int32} {S e n : Nat} (hs : s = nI S) (hS : S ≤ 3) (he : e < 8) (hn2 : n ≤ 40) (hn : g 83 S = nI n) (h : p_inv (c + 41) r) : ge_N X ge_SH YX12_showsSo 42 [.ref (ge_ad X.1 76), .int s, .int (nI e)] (ge_m g r f) (some (.int (p_b (p_so (fun k => g 84 (40 * S + k)) r n e)))) (ge_m g (p_ssr r e (p_hp n (p_ju (fun k => g 84 (40 * S + k)) (p_sE r e) n 0))) f) := by
  refine gq_ofB (l := [(0, .ref (ge_ad X.1 76)), (1, .int s), (2, .int (nI e))]) (by decide) (Nat.le_of_ble_eq_true rfl) rfl ?_
  have fin : ∀ i, i < n → i = p_ju (fun k => g 84 (40 * S + k)) (p_sE r e) n 0 → ge_B X ge_SH YX12_showsSo 42 (fun v2 g2 => v2 = (some (.int (p_b (p_so (fun k => g 84 (40 * S + k)) r n e)))) ∧ g2 = (ge_m g (p_ssr r e (p_hp n (p_ju (fun k => g 84 (40 * S + k)) (p_sE r e) n 0))) f)) 5 [(4, .int (nI (i + 1))), (3, .int 0), (0, .ref (ge_ad X.1 76)), (1, .int s), (2, .int (nI e))] [] (ge_m g (p_ssr r e (i + 1)) f) := by
    intro i hi hR
    refine gq_iload (pc := 5) dX12_showsSo_5 rfl ?_
    refine gq_aload_n (pc := 7) dX12_showsSo_7 rfl ?_
    refine gq_getr (pc := 8) dX12_showsSo_8 fl_X12_28_12 sh_76 rfl ?_
    refine gq_iload_n (pc := 11) dX12_showsSo_11 rfl ?_
    refine qm_aldo (pc := 12) dX12_showsSo_12 sh_83 (by decide) hs (by first | decide | omega) (by decide) ?_
    refine gq_ic_ge (pc := 13) 67 dX12_showsSo_13 (by decide) (fun h_13 => ?_) (fun h_13 => ?_)
    · refine gq_iload_n (pc := 67) dX12_showsSo_67 rfl ?_
      exact gq_zret (pc := 68) rfl rfl dX12_showsSo_68 ⟨by unfold p_so; rw [← hR, decide_eq_false (by omega)]; rfl, by rw [← hR]; unfold p_hp; rw [if_neg (by omega)]⟩
    · refine gq_iload_n (pc := 16) dX12_showsSo_16 rfl ?_
      refine gq_if_eq (pc := 17) 67 dX12_showsSo_17 (by decide) (fun h_17 => ?_) (fun h_17 => ?_)
      · refine gq_iload_n (pc := 67) dX12_showsSo_67 rfl ?_
        exact gq_zret (pc := 68) rfl rfl dX12_showsSo_68 ⟨by unfold p_so; rw [← hR, decide_eq_false (by omega)]; rfl, by rw [← hR]; unfold p_hp; rw [if_neg (by omega)]⟩
      · exact absurd h_17 (by decide)
  have key : ∀ (m i : Nat), i + m = n → p_ju (fun k => g 84 (40 * S + k)) (p_sE r e) m i = p_ju (fun k => g 84 (40 * S + k)) (p_sE r e) n 0 → ge_B X ge_SH YX12_showsSo 42 (fun v2 g2 => v2 = (some (.int (p_b (p_so (fun k => g 84 (40 * S + k)) r n e)))) ∧ g2 = (ge_m g (p_ssr r e (p_hp n (p_ju (fun k => g 84 (40 * S + k)) (p_sE r e) n 0))) f)) 5 [(4, .int (nI (i))), (3, .int 1), (0, .ref (ge_ad X.1 76)), (1, .int s), (2, .int (nI e))] [] (ge_m g (p_ssr r e (i)) f) := by
    intro m
    induction m with
    | zero =>
      intro i hi hR
      obtain rfl : i = n := hi
      have hR : i = p_ju (fun k => g 84 (40 * S + k)) (p_sE r e) i 0 := hR
      refine gq_iload (pc := 5) dX12_showsSo_5 rfl ?_
      refine gq_aload_n (pc := 7) dX12_showsSo_7 rfl ?_
      refine gq_getr (pc := 8) dX12_showsSo_8 fl_X12_28_12 sh_76 rfl ?_
      refine gq_iload_n (pc := 11) dX12_showsSo_11 rfl ?_
      refine qm_aldo (pc := 12) dX12_showsSo_12 sh_83 (by decide) hs (by first | decide | omega) (by decide) ?_
      rw [hn]
      refine gq_ic_ge (pc := 13) 67 dX12_showsSo_13 (by decide) (fun h_13 => ?_) (fun h_13 => ?_)
      · refine gq_iload_n (pc := 67) dX12_showsSo_67 rfl ?_
        exact gq_zret (pc := 68) rfl rfl dX12_showsSo_68 ⟨by unfold p_so; rw [← hR, decide_eq_true rfl]; rfl, by rw [← hR]; unfold p_hp; rw [if_pos rfl]⟩
      · exact absurd (Int32.le_refl _) h_13
    | succ m ih =>
      intro i hi hR
      have hi1 := p_inv_ssr (r := r) (c := c + (41 - i)) he i (by rw [show c + (41 - i) + i = c + 41 by omega]; exact h)
      refine gq_iload (pc := 5) dX12_showsSo_5 rfl ?_
      refine gq_aload_n (pc := 7) dX12_showsSo_7 rfl ?_
      refine gq_getr (pc := 8) dX12_showsSo_8 fl_X12_28_12 sh_76 rfl ?_
      refine gq_iload_n (pc := 11) dX12_showsSo_11 rfl ?_
      refine qm_aldo (pc := 12) dX12_showsSo_12 sh_83 (by decide) hs (by first | decide | omega) (by decide) ?_
      rw [hn]
      refine gq_ic_ge (pc := 13) 67 dX12_showsSo_13 (by decide) (fun h_13 => ?_) (fun h_13 => ?_)
      · exact absurd ((nI_leI (a := n) (b := i) (by omega) (by omega)).mp h_13) (by omega)
      · refine gq_iload_n (pc := 16) dX12_showsSo_16 rfl ?_
        refine gq_if_eq (pc := 17) 67 dX12_showsSo_17 (by decide) (fun h_17 => ?_) (fun h_17 => ?_)
        · exact absurd h_17 (by decide)
        · refine gq_aload_n (pc := 20) dX12_showsSo_20 rfl ?_
          refine gq_getr (pc := 21) dX12_showsSo_21 fl_X12_31_12 sh_76 rfl ?_
          refine gq_bipush (pc := 24) dX12_showsSo_24 kb_40 ?_
          refine gq_iload_n (pc := 26) dX12_showsSo_26 rfl ?_
          refine gq_imul (pc := 27) dX12_showsSo_27 ?_
          refine gq_iload (pc := 28) dX12_showsSo_28 rfl ?_
          refine gq_iadd (pc := 30) dX12_showsSo_30 ?_
          refine qm_aldo (pc := 31) dX12_showsSo_31 sh_84 (by decide) (by rw [hs, show (40 : Int32) * nI S = nI (40 * S) from pk_mul 40 S, nI_add]) (by first | decide | omega) (by decide) ?_
          refine gq_aload_n (pc := 32) dX12_showsSo_32 rfl ?_
          refine gq_iload_n (pc := 33) dX12_showsSo_33 rfl ?_
          refine gq_rV1i (pc := 34) dX12_showsSo_34 cv_X12_75 sh_76 (k_shows hi1 rfl he) ⟨by decide, by decide⟩ rfl rfl (Nat.le_of_ble_eq_true rfl) ?_
          refine gq_ic_ne (pc := 37) 44 dX12_showsSo_37 (by decide) (fun h_37 => ?_) (fun h_37 => ?_)
          · refine gq_iconst (pc := 44) dX12_showsSo_44 kc_0 ?_
            refine gq_istore_n (pc := 45) (l' := [(3, _), (4, _), (0, _), (1, _), (2, _)]) dX12_showsSo_45 (by decide) rfl ?_
            refine gq_aload_n (pc := 46) dX12_showsSo_46 rfl ?_
            refine gq_iload_n (pc := 47) dX12_showsSo_47 rfl ?_
            refine gq_rV1v (pc := 48) dX12_showsSo_48 cv_X12_177 sh_76 (k_wears (Or.inr ⟨e, he, rfl⟩)) ⟨by decide, by decide⟩ rfl rfl (Nat.le_of_ble_eq_true rfl) ?_
            refine gq_aload_n (pc := 51) dX12_showsSo_51 rfl ?_
            refine gq_getr (pc := 52) dX12_showsSo_52 fl_X12_7_12 sh_76 rfl ?_
            refine gq_iconst (pc := 55) dX12_showsSo_55 kc_0 ?_
            refine gq_dup2 (pc := 56) dX12_showsSo_56 rfl rfl ?_
            refine qm_ald (pc := 57) dX12_showsSo_57 kl_0 (by first | decide | omega) ?_
            refine gq_iconst (pc := 58) dX12_showsSo_58 kc_1 ?_
            refine gq_iadd (pc := 59) dX12_showsSo_59 ?_
            refine qm_ast (pc := 60) dX12_showsSo_60 kl_0 (by first | decide | omega) ?_
            refine gq_iinc (pc := 61) (l' := [(4, _), (3, _), (0, _), (1, _), (2, _)]) dX12_showsSo_61 rfl (ge_inc1 i) (by decide) rfl ?_
            refine gq_goto (pc := 64) 5 dX12_showsSo_64 (by decide) ?_
            have hR2 : p_ju (fun k => g 84 (40 * S + k)) (p_sE r e) (m + 1) i = i := if_neg h_37
            rw [hR2] at hR
            refine gq_sub [0, 1, 2, 3, 4] rfl ?_
            exact fin i (by omega) hR
          · refine gq_iconst (pc := 40) dX12_showsSo_40 kc_1 ?_
            refine gq_goto (pc := 41) 45 dX12_showsSo_41 (by decide) ?_
            refine gq_istore_n (pc := 45) (l' := [(3, _), (4, _), (0, _), (1, _), (2, _)]) dX12_showsSo_45 (by decide) rfl ?_
            refine gq_aload_n (pc := 46) dX12_showsSo_46 rfl ?_
            refine gq_iload_n (pc := 47) dX12_showsSo_47 rfl ?_
            refine gq_rV1v (pc := 48) dX12_showsSo_48 cv_X12_177 sh_76 (k_wears (Or.inr ⟨e, he, rfl⟩)) ⟨by decide, by decide⟩ rfl rfl (Nat.le_of_ble_eq_true rfl) ?_
            refine gq_aload_n (pc := 51) dX12_showsSo_51 rfl ?_
            refine gq_getr (pc := 52) dX12_showsSo_52 fl_X12_7_12 sh_76 rfl ?_
            refine gq_iconst (pc := 55) dX12_showsSo_55 kc_0 ?_
            refine gq_dup2 (pc := 56) dX12_showsSo_56 rfl rfl ?_
            refine qm_ald (pc := 57) dX12_showsSo_57 kl_0 (by first | decide | omega) ?_
            refine gq_iconst (pc := 58) dX12_showsSo_58 kc_1 ?_
            refine gq_iadd (pc := 59) dX12_showsSo_59 ?_
            refine qm_ast (pc := 60) dX12_showsSo_60 kl_0 (by first | decide | omega) ?_
            refine gq_iinc (pc := 61) (l' := [(4, _), (3, _), (0, _), (1, _), (2, _)]) dX12_showsSo_61 rfl (ge_inc1 i) (by decide) rfl ?_
            refine gq_goto (pc := 64) 5 dX12_showsSo_64 (by decide) ?_
            refine gq_sub [0, 1, 2, 3, 4] rfl ?_
            exact ih (i + 1) (by omega) (by rw [← hR]; exact (if_pos (by first | exact h_37 | exact Decidable.not_not.mp h_37)).symm)
  refine gq_iconst (pc := 0) dX12_showsSo_0 kc_1 ?_
  refine gq_istore_n (pc := 1) (l' := [(3, _), (0, _), (1, _), (2, _)]) dX12_showsSo_1 (by decide) rfl ?_
  refine gq_iconst (pc := 2) dX12_showsSo_2 kc_0 ?_
  refine gq_istore (pc := 3) (l' := [(4, _), (3, _), (0, _), (1, _), (2, _)]) dX12_showsSo_3 (by decide) rfl ?_
  refine gq_sub [0, 1, 2, 3, 4] rfl ?_
  exact key n 0 (by omega) rfl
set_option maxHeartbeats 1000000 in
theorem m_whose_ok0 {s v : Int32} {S n : Nat} (hs : s = nI S) (hS : S ≤ 3) (h : p_inv (c + 41) r) (e2 : r 2 = nI E) (hE : E ≤ 8) (hin : ¬ p_in v 0 (r 3 - 1) = 0) (hn2 : n ≤ 40) (hn : g 83 S = nI n) (hb0 : ¬ g 82 S = 0) : ge_N X ge_SH YX12_whose 45 [.ref (ge_ad X.1 76), .int s, .int v, .int 0] (ge_m g r f) (some (.int (p_wsF (p_so (fun k => g 84 (40 * S + k)) r n) E))) (ge_m (ge_row g 79 r) r f) := by
  refine gq_ofB (l := [(0, .ref (ge_ad X.1 76)), (1, .int s), (2, .int v), (3, .int 0)]) (by decide) (Nat.le_of_ble_eq_true rfl) rfl ?_
  have key : ∀ (m i : Nat), i + m = E → ge_B X ge_SH YX12_whose 45 (fun v2 g2 => v2 = (some (.int (p_wsF (p_so (fun k => g 84 (40 * S + k)) r n) E))) ∧ g2 = (ge_m (ge_row g 79 r) r f)) 65 [(5, .int (nI i)), (4, .int (p_wsF (p_so (fun k => g 84 (40 * S + k)) r n) i)), (0, .ref (ge_ad X.1 76)), (1, .int s), (2, .int v), (3, .int 0)] [] (ge_m (ge_row g 79 r) r f) := by
    intro m
    induction m with
    | zero =>
      intro i hi
      obtain rfl : i = E := hi
      refine gq_iload (pc := 65) dX12_whose_65 rfl ?_
      refine gq_aload_n (pc := 67) dX12_whose_67 rfl ?_
      refine gq_getr (pc := 68) dX12_whose_68 fl_X12_7_12 sh_76 rfl ?_
      refine gq_iconst (pc := 71) dX12_whose_71 kc_2 ?_
      refine qm_ald (pc := 72) dX12_whose_72 kl_2 (by first | decide | omega) ?_
      rw [e2]
      refine gq_ic_ge (pc := 73) 117 dX12_whose_73 (by decide) (fun h_73 => ?_) (fun h_73 => ?_)
      · refine gq_iload_n (pc := 117) dX12_whose_117 rfl ?_
        refine gq_if_ne (pc := 118) 126 dX12_whose_118 (by decide) (fun h_118 => ?_) (fun h_118 => ?_)
        · exact absurd h_118 (by decide)
        · refine gq_iload (pc := 121) dX12_whose_121 rfl ?_
          refine gq_goto (pc := 123) 131 dX12_whose_123 (by decide) ?_
          exact gq_iret (pc := 131) rfl dX12_whose_131 ⟨rfl, rfl⟩
      · exact absurd (Int32.le_refl _) h_73
    | succ m ih =>
      intro i hi
      have hc := m_showsSo (X := X) (g := ge_row g 79 r) (f := f) (e := i) hs hS (by omega) hn2 hn h
      have e84 : ge_row g 79 r 84 = g 84 := rfl
      rw [e84] at hc
      have q := ih (i + 1) (by omega)
      refine gq_iload (pc := 65) dX12_whose_65 rfl ?_
      refine gq_aload_n (pc := 67) dX12_whose_67 rfl ?_
      refine gq_getr (pc := 68) dX12_whose_68 fl_X12_7_12 sh_76 rfl ?_
      refine gq_iconst (pc := 71) dX12_whose_71 kc_2 ?_
      refine qm_ald (pc := 72) dX12_whose_72 kl_2 (by first | decide | omega) ?_
      rw [e2]
      refine gq_ic_ge (pc := 73) 117 dX12_whose_73 (by decide) (fun h_73 => ?_) (fun h_73 => ?_)
      · exact absurd ((nI_leI (a := E) (b := i) (by omega) (by omega)).mp h_73) (by omega)
      · refine gq_iload (pc := 76) dX12_whose_76 rfl ?_
        refine gq_aload_n (pc := 78) dX12_whose_78 rfl ?_
        refine gq_iload_n (pc := 79) dX12_whose_79 rfl ?_
        refine gq_iload (pc := 80) dX12_whose_80 rfl ?_
        refine gq_rV2i (pc := 82) dX12_whose_82 cv_X12_206 sh_76 hc ⟨by decide, by decide⟩ rfl rfl (Nat.le_of_ble_eq_true rfl) ?_
        refine gq_if_eq (pc := 85) 95 dX12_whose_85 (by decide) (fun h_85 => ?_) (fun h_85 => ?_)
        · refine gq_iconst (pc := 95) dX12_whose_95 kc_0 ?_
          refine gq_ior (pc := 96) dX12_whose_96 ?_
          refine gq_istore (pc := 97) (l' := [(4, _), (5, _), (0, _), (1, _), (2, _), (3, _)]) dX12_whose_97 (by decide) rfl ?_
          refine gq_aload_n (pc := 99) dX12_whose_99 rfl ?_
          refine gq_aload_n (pc := 100) dX12_whose_100 rfl ?_
          refine gq_getr (pc := 101) dX12_whose_101 fl_X12_16_12 sh_76 rfl ?_
          refine gq_aload_n (pc := 104) dX12_whose_104 rfl ?_
          refine gq_getr (pc := 105) dX12_whose_105 fl_X12_7_12 sh_76 rfl ?_
          refine gq_rV2v (pc := 108) dX12_whose_108 cv_X12_170 sh_76 (k_move_back sh_79 (by decide) (by decide) (by decide)) ⟨by decide, by decide⟩ rfl rfl (Nat.le_of_ble_eq_true rfl) ?_
          refine gq_tog (g := (ge_m (ge_row g 79 r) r f)) (by rw [ge_row_self]) ?_
          refine gq_iinc (pc := 111) (l' := [(5, _), (4, _), (0, _), (1, _), (2, _), (3, _)]) dX12_whose_111 rfl (ge_inc1 i) (by decide) rfl ?_
          refine gq_goto (pc := 114) 65 dX12_whose_114 (by decide) ?_
          rw [p_wsF_n (e := i) (by rw [p_b_0.mp h_85]; decide)] at q
          rw [p_or_0]
          refine gq_sub [0, 1, 2, 3, 4, 5] rfl ?_
          exact q
        · refine gq_iconst (pc := 88) dX12_whose_88 kc_1 ?_
          refine gq_iload (pc := 89) dX12_whose_89 rfl ?_
          refine gq_ishl (pc := 91) dX12_whose_91 ?_
          refine gq_goto (pc := 92) 96 dX12_whose_92 (by decide) ?_
          refine gq_ior (pc := 96) dX12_whose_96 ?_
          refine gq_istore (pc := 97) (l' := [(4, _), (5, _), (0, _), (1, _), (2, _), (3, _)]) dX12_whose_97 (by decide) rfl ?_
          refine gq_aload_n (pc := 99) dX12_whose_99 rfl ?_
          refine gq_aload_n (pc := 100) dX12_whose_100 rfl ?_
          refine gq_getr (pc := 101) dX12_whose_101 fl_X12_16_12 sh_76 rfl ?_
          refine gq_aload_n (pc := 104) dX12_whose_104 rfl ?_
          refine gq_getr (pc := 105) dX12_whose_105 fl_X12_7_12 sh_76 rfl ?_
          refine gq_rV2v (pc := 108) dX12_whose_108 cv_X12_170 sh_76 (k_move_back sh_79 (by decide) (by decide) (by decide)) ⟨by decide, by decide⟩ rfl rfl (Nat.le_of_ble_eq_true rfl) ?_
          refine gq_tog (g := (ge_m (ge_row g 79 r) r f)) (by rw [ge_row_self]) ?_
          refine gq_iinc (pc := 111) (l' := [(5, _), (4, _), (0, _), (1, _), (2, _), (3, _)]) dX12_whose_111 rfl (ge_inc1 i) (by decide) rfl ?_
          refine gq_goto (pc := 114) 65 dX12_whose_114 (by decide) ?_
          rw [p_wsF_y (e := i) (p_b_n.mp h_85)] at q
          refine gq_sub [0, 1, 2, 3, 4, 5] rfl ?_
          exact q
  refine gq_iload_n (pc := 0) dX12_whose_0 rfl ?_
  refine gq_rS1i (pc := 1) dX12_whose_1 cs_X12_203 (k_isSheet _) ⟨by decide, by decide⟩ (Nat.le_of_ble_eq_true rfl) ?_
  refine gq_if_eq (pc := 4) 24 dX12_whose_4 (by decide) (fun h_4 => ?_) (fun h_4 => ?_)
  · exact absurd h_4 (p_in_le (N := 3) hs hS (by decide))
  · refine gq_aload_n (pc := 7) dX12_whose_7 rfl ?_
    refine gq_iload_n (pc := 8) dX12_whose_8 rfl ?_
    refine gq_rV1i (pc := 9) dX12_whose_9 cv_X12_84 sh_76 (k_isWearer _) ⟨by decide, by decide⟩ rfl rfl (Nat.le_of_ble_eq_true rfl) ?_
    refine gq_if_eq (pc := 12) 24 dX12_whose_12 (by decide) (fun h_12 => ?_) (fun h_12 => ?_)
    · exact absurd h_12 hin
    · refine gq_iload_n (pc := 15) dX12_whose_15 rfl ?_
      refine gq_iconst (pc := 16) dX12_whose_16 kc_0 ?_
      refine gq_iconst (pc := 17) dX12_whose_17 kc_1 ?_
      refine gq_rS3i (pc := 18) dX12_whose_18 cs_X12_41 (k_in _ _ _) ⟨by decide, by decide⟩ (Nat.le_of_ble_eq_true rfl) ?_
      refine gq_if_ne (pc := 21) 31 dX12_whose_21 (by decide) (fun h_21 => ?_) (fun h_21 => ?_)
      · refine gq_aload_n (pc := 31) dX12_whose_31 rfl ?_
        refine gq_getr (pc := 32) dX12_whose_32 fl_X12_25_12 sh_76 rfl ?_
        refine gq_iload_n (pc := 35) dX12_whose_35 rfl ?_
        refine qm_aldo (pc := 36) dX12_whose_36 sh_82 (by decide) hs (by first | decide | omega) (by decide) ?_
        refine gq_if_ne (pc := 37) 47 dX12_whose_37 (by decide) (fun h_37 => ?_) (fun h_37 => ?_)
        · refine gq_iconst (pc := 47) dX12_whose_47 kc_0 ?_
          refine gq_istore (pc := 48) (l' := [(4, _), (0, _), (1, _), (2, _), (3, _)]) dX12_whose_48 (by decide) rfl ?_
          refine gq_aload_n (pc := 50) dX12_whose_50 rfl ?_
          refine gq_aload_n (pc := 51) dX12_whose_51 rfl ?_
          refine gq_getr (pc := 52) dX12_whose_52 fl_X12_7_12 sh_76 rfl ?_
          refine gq_aload_n (pc := 55) dX12_whose_55 rfl ?_
          refine gq_getr (pc := 56) dX12_whose_56 fl_X12_16_12 sh_76 rfl ?_
          refine gq_rV2v (pc := 59) dX12_whose_59 cv_X12_170 sh_76 (k_move_to sh_79 (by decide) (by decide)) ⟨by decide, by decide⟩ rfl rfl (Nat.le_of_ble_eq_true rfl) ?_
          refine gq_iconst (pc := 62) dX12_whose_62 kc_0 ?_
          refine gq_istore (pc := 63) (l' := [(5, _), (4, _), (0, _), (1, _), (2, _), (3, _)]) dX12_whose_63 (by decide) rfl ?_
          refine gq_sub [0, 1, 2, 3, 4, 5] rfl ?_
          exact key E 0 (by omega)
        · exact absurd h_37 hb0
      · exact absurd h_21 (show ¬ p_in 0 0 1 = 0 by decide)
set_option maxHeartbeats 1000000 in
theorem m_whose_ok1 {s v : Int32} {S n : Nat} (hs : s = nI S) (hS : S ≤ 3) (h : p_inv (c + 41) r) (e2 : r 2 = nI E) (hE : E ≤ 8) (hin : ¬ p_in v 0 (r 3 - 1) = 0) (hn2 : n ≤ 40) (hn : g 83 S = nI n) (hb0 : ¬ g 82 S = 0) {k : Nat} (hk : p_wsF (p_so (fun k => g 84 (40 * S + k)) r n) E = nI k) (hk2 : k < 1024) : ge_N X ge_SH YX12_whose 45 [.ref (ge_ad X.1 76), .int s, .int v, .int 1] (ge_m g r f) (some (.int (nI (p_pop k)))) (ge_m (ge_row g 79 r) r f) := by
  refine gq_ofB (l := [(0, .ref (ge_ad X.1 76)), (1, .int s), (2, .int v), (3, .int 1)]) (by decide) (Nat.le_of_ble_eq_true rfl) rfl ?_
  have key : ∀ (m i : Nat), i + m = E → ge_B X ge_SH YX12_whose 45 (fun v2 g2 => v2 = (some (.int (nI (p_pop k)))) ∧ g2 = (ge_m (ge_row g 79 r) r f)) 65 [(5, .int (nI i)), (4, .int (p_wsF (p_so (fun k => g 84 (40 * S + k)) r n) i)), (0, .ref (ge_ad X.1 76)), (1, .int s), (2, .int v), (3, .int 1)] [] (ge_m (ge_row g 79 r) r f) := by
    intro m
    induction m with
    | zero =>
      intro i hi
      obtain rfl : i = E := hi
      refine gq_iload (pc := 65) dX12_whose_65 rfl ?_
      refine gq_aload_n (pc := 67) dX12_whose_67 rfl ?_
      refine gq_getr (pc := 68) dX12_whose_68 fl_X12_7_12 sh_76 rfl ?_
      refine gq_iconst (pc := 71) dX12_whose_71 kc_2 ?_
      refine qm_ald (pc := 72) dX12_whose_72 kl_2 (by first | decide | omega) ?_
      rw [e2]
      refine gq_ic_ge (pc := 73) 117 dX12_whose_73 (by decide) (fun h_73 => ?_) (fun h_73 => ?_)
      · refine gq_iload_n (pc := 117) dX12_whose_117 rfl ?_
        refine gq_if_ne (pc := 118) 126 dX12_whose_118 (by decide) (fun h_118 => ?_) (fun h_118 => ?_)
        · refine gq_iload (pc := 126) dX12_whose_126 rfl ?_
          refine gq_rS1i (pc := 128) dX12_whose_128 cs_X12_191 (k_bits hk hk2) ⟨by decide, by decide⟩ (Nat.le_of_ble_eq_true rfl) ?_
          exact gq_iret (pc := 131) rfl dX12_whose_131 ⟨rfl, rfl⟩
        · exact absurd h_118 (by decide)
      · exact absurd (Int32.le_refl _) h_73
    | succ m ih =>
      intro i hi
      have hc := m_showsSo (X := X) (g := ge_row g 79 r) (f := f) (e := i) hs hS (by omega) hn2 hn h
      have e84 : ge_row g 79 r 84 = g 84 := rfl
      rw [e84] at hc
      have q := ih (i + 1) (by omega)
      refine gq_iload (pc := 65) dX12_whose_65 rfl ?_
      refine gq_aload_n (pc := 67) dX12_whose_67 rfl ?_
      refine gq_getr (pc := 68) dX12_whose_68 fl_X12_7_12 sh_76 rfl ?_
      refine gq_iconst (pc := 71) dX12_whose_71 kc_2 ?_
      refine qm_ald (pc := 72) dX12_whose_72 kl_2 (by first | decide | omega) ?_
      rw [e2]
      refine gq_ic_ge (pc := 73) 117 dX12_whose_73 (by decide) (fun h_73 => ?_) (fun h_73 => ?_)
      · exact absurd ((nI_leI (a := E) (b := i) (by omega) (by omega)).mp h_73) (by omega)
      · refine gq_iload (pc := 76) dX12_whose_76 rfl ?_
        refine gq_aload_n (pc := 78) dX12_whose_78 rfl ?_
        refine gq_iload_n (pc := 79) dX12_whose_79 rfl ?_
        refine gq_iload (pc := 80) dX12_whose_80 rfl ?_
        refine gq_rV2i (pc := 82) dX12_whose_82 cv_X12_206 sh_76 hc ⟨by decide, by decide⟩ rfl rfl (Nat.le_of_ble_eq_true rfl) ?_
        refine gq_if_eq (pc := 85) 95 dX12_whose_85 (by decide) (fun h_85 => ?_) (fun h_85 => ?_)
        · refine gq_iconst (pc := 95) dX12_whose_95 kc_0 ?_
          refine gq_ior (pc := 96) dX12_whose_96 ?_
          refine gq_istore (pc := 97) (l' := [(4, _), (5, _), (0, _), (1, _), (2, _), (3, _)]) dX12_whose_97 (by decide) rfl ?_
          refine gq_aload_n (pc := 99) dX12_whose_99 rfl ?_
          refine gq_aload_n (pc := 100) dX12_whose_100 rfl ?_
          refine gq_getr (pc := 101) dX12_whose_101 fl_X12_16_12 sh_76 rfl ?_
          refine gq_aload_n (pc := 104) dX12_whose_104 rfl ?_
          refine gq_getr (pc := 105) dX12_whose_105 fl_X12_7_12 sh_76 rfl ?_
          refine gq_rV2v (pc := 108) dX12_whose_108 cv_X12_170 sh_76 (k_move_back sh_79 (by decide) (by decide) (by decide)) ⟨by decide, by decide⟩ rfl rfl (Nat.le_of_ble_eq_true rfl) ?_
          refine gq_tog (g := (ge_m (ge_row g 79 r) r f)) (by rw [ge_row_self]) ?_
          refine gq_iinc (pc := 111) (l' := [(5, _), (4, _), (0, _), (1, _), (2, _), (3, _)]) dX12_whose_111 rfl (ge_inc1 i) (by decide) rfl ?_
          refine gq_goto (pc := 114) 65 dX12_whose_114 (by decide) ?_
          rw [p_wsF_n (e := i) (by rw [p_b_0.mp h_85]; decide)] at q
          rw [p_or_0]
          refine gq_sub [0, 1, 2, 3, 4, 5] rfl ?_
          exact q
        · refine gq_iconst (pc := 88) dX12_whose_88 kc_1 ?_
          refine gq_iload (pc := 89) dX12_whose_89 rfl ?_
          refine gq_ishl (pc := 91) dX12_whose_91 ?_
          refine gq_goto (pc := 92) 96 dX12_whose_92 (by decide) ?_
          refine gq_ior (pc := 96) dX12_whose_96 ?_
          refine gq_istore (pc := 97) (l' := [(4, _), (5, _), (0, _), (1, _), (2, _), (3, _)]) dX12_whose_97 (by decide) rfl ?_
          refine gq_aload_n (pc := 99) dX12_whose_99 rfl ?_
          refine gq_aload_n (pc := 100) dX12_whose_100 rfl ?_
          refine gq_getr (pc := 101) dX12_whose_101 fl_X12_16_12 sh_76 rfl ?_
          refine gq_aload_n (pc := 104) dX12_whose_104 rfl ?_
          refine gq_getr (pc := 105) dX12_whose_105 fl_X12_7_12 sh_76 rfl ?_
          refine gq_rV2v (pc := 108) dX12_whose_108 cv_X12_170 sh_76 (k_move_back sh_79 (by decide) (by decide) (by decide)) ⟨by decide, by decide⟩ rfl rfl (Nat.le_of_ble_eq_true rfl) ?_
          refine gq_tog (g := (ge_m (ge_row g 79 r) r f)) (by rw [ge_row_self]) ?_
          refine gq_iinc (pc := 111) (l' := [(5, _), (4, _), (0, _), (1, _), (2, _), (3, _)]) dX12_whose_111 rfl (ge_inc1 i) (by decide) rfl ?_
          refine gq_goto (pc := 114) 65 dX12_whose_114 (by decide) ?_
          rw [p_wsF_y (e := i) (p_b_n.mp h_85)] at q
          refine gq_sub [0, 1, 2, 3, 4, 5] rfl ?_
          exact q
  refine gq_iload_n (pc := 0) dX12_whose_0 rfl ?_
  refine gq_rS1i (pc := 1) dX12_whose_1 cs_X12_203 (k_isSheet _) ⟨by decide, by decide⟩ (Nat.le_of_ble_eq_true rfl) ?_
  refine gq_if_eq (pc := 4) 24 dX12_whose_4 (by decide) (fun h_4 => ?_) (fun h_4 => ?_)
  · exact absurd h_4 (p_in_le (N := 3) hs hS (by decide))
  · refine gq_aload_n (pc := 7) dX12_whose_7 rfl ?_
    refine gq_iload_n (pc := 8) dX12_whose_8 rfl ?_
    refine gq_rV1i (pc := 9) dX12_whose_9 cv_X12_84 sh_76 (k_isWearer _) ⟨by decide, by decide⟩ rfl rfl (Nat.le_of_ble_eq_true rfl) ?_
    refine gq_if_eq (pc := 12) 24 dX12_whose_12 (by decide) (fun h_12 => ?_) (fun h_12 => ?_)
    · exact absurd h_12 hin
    · refine gq_iload_n (pc := 15) dX12_whose_15 rfl ?_
      refine gq_iconst (pc := 16) dX12_whose_16 kc_0 ?_
      refine gq_iconst (pc := 17) dX12_whose_17 kc_1 ?_
      refine gq_rS3i (pc := 18) dX12_whose_18 cs_X12_41 (k_in _ _ _) ⟨by decide, by decide⟩ (Nat.le_of_ble_eq_true rfl) ?_
      refine gq_if_ne (pc := 21) 31 dX12_whose_21 (by decide) (fun h_21 => ?_) (fun h_21 => ?_)
      · refine gq_aload_n (pc := 31) dX12_whose_31 rfl ?_
        refine gq_getr (pc := 32) dX12_whose_32 fl_X12_25_12 sh_76 rfl ?_
        refine gq_iload_n (pc := 35) dX12_whose_35 rfl ?_
        refine qm_aldo (pc := 36) dX12_whose_36 sh_82 (by decide) hs (by first | decide | omega) (by decide) ?_
        refine gq_if_ne (pc := 37) 47 dX12_whose_37 (by decide) (fun h_37 => ?_) (fun h_37 => ?_)
        · refine gq_iconst (pc := 47) dX12_whose_47 kc_0 ?_
          refine gq_istore (pc := 48) (l' := [(4, _), (0, _), (1, _), (2, _), (3, _)]) dX12_whose_48 (by decide) rfl ?_
          refine gq_aload_n (pc := 50) dX12_whose_50 rfl ?_
          refine gq_aload_n (pc := 51) dX12_whose_51 rfl ?_
          refine gq_getr (pc := 52) dX12_whose_52 fl_X12_7_12 sh_76 rfl ?_
          refine gq_aload_n (pc := 55) dX12_whose_55 rfl ?_
          refine gq_getr (pc := 56) dX12_whose_56 fl_X12_16_12 sh_76 rfl ?_
          refine gq_rV2v (pc := 59) dX12_whose_59 cv_X12_170 sh_76 (k_move_to sh_79 (by decide) (by decide)) ⟨by decide, by decide⟩ rfl rfl (Nat.le_of_ble_eq_true rfl) ?_
          refine gq_iconst (pc := 62) dX12_whose_62 kc_0 ?_
          refine gq_istore (pc := 63) (l' := [(5, _), (4, _), (0, _), (1, _), (2, _), (3, _)]) dX12_whose_63 (by decide) rfl ?_
          refine gq_sub [0, 1, 2, 3, 4, 5] rfl ?_
          exact key E 0 (by omega)
        · exact absurd h_37 hb0
      · exact absurd h_21 (show ¬ p_in 1 0 1 = 0 by decide)
end T12
