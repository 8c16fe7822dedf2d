section W7
variable {X : ge_X} {g : ge_G} {r x hb : Nat → Int32} {c : Nat}
theorem p_hi_uo (r : Nat → Int32) {w k : Nat} (v : Int32) (hw : w < 6) (hk : k < 4) {i : Nat} (hi : 74 ≤ i) : p_uo r w k v i = r i := by
  unfold p_uo upd; rw [if_neg (by omega)]
theorem p_hi_ue (r : Nat → Int32) {e k : Nat} (v : Int32) (he : e < 8) (hk : k < 4) {i : Nat} (hi : 74 ≤ i) : p_ue r e k v i = r i := by
  unfold p_ue upd; rw [if_neg (by omega)]
theorem p_hi_wear {v : Int32} (h : p_eo v) {i : Nat} (hi : 74 ≤ i) : p_wear r v i = r i := by
  unfold p_wear
  by_cases h0 : v < 0
  · rw [if_pos h0]
  · rw [if_neg h0, p_hi_ue _ _ (p_eo_n h h0).2 (by omega) hi]
theorem p_hi_look2 {w e : Nat} (hw : w < 6) (h0 : p_eo (p_o r w 0)) (h1 : p_eo (p_o r w 1)) {i : Nat} (hi : 74 ≤ i) : p_look2 r w e i = r i := by
  have b0 : p_eo (p_o (p_look1 r w e) w 0) := by rw [p_o_look1 w e 0 (by omega)]; exact h0
  have b1 : p_eo (p_o (p_wear1 (p_look1 r w e) w) w 1) := by unfold p_wear1; rw [p_o_wear b0, p_o_look1 w e 1 (by omega)]; exact h1
  show p_wear (p_wear (p_look1 r w e) (p_o (p_look1 r w e) w 0)) (p_o (p_wear1 (p_look1 r w e) w) w 1) i = _
  rw [p_hi_wear b1 hi, p_hi_wear b0 hi]
  unfold p_look1
  rw [p_hi_uo _ _ hw (by omega) hi, p_hi_uo _ _ hw (by omega) hi]
theorem p_hi_one {w : Nat} (hw : w < 6) (h0 : p_eo (p_o r w 0)) (h1 : p_eo (p_o r w 1)) {i : Nat} (hi : 74 ≤ i) : p_one r w i = r i := by
  unfold p_one
  split
  · rw [p_hi_uo _ _ hw (by omega) hi]
  · unfold p_look
    split
    · unfold p_take
      rw [p_hi_uo _ _ hw (by omega) hi]
      split
      · rw [p_hi_uo _ _ hw (by omega) hi, p_hi_look2 hw h0 h1 hi]
      · rw [p_hi_uo _ _ hw (by omega) hi, p_hi_look2 hw h0 h1 hi]
    · rw [p_hi_look2 hw h0 h1 hi]
theorem p_law_of {r' : Nat → Int32} {u : Nat} (h6 : r' (6 + u) = r (6 + u)) (hh : ∀ i, 74 ≤ i → r' i = r i) (A B C : Int32) : p_law r' u A B C = p_law r u A B C := by
  have e : ∀ n, e_b r' u n = e_b r u n := fun n => by funext k; unfold e_b; rw [hh _ (by omega)]
  unfold p_law e_all
  rw [h6, e]
theorem c_lw_of {r' : Nat → Int32} (h6 : r' 6 = r 6) (h7 : r' 7 = r 7) (hh : ∀ i, 74 ≤ i → r' i = r i) (h : c_lw g r) : c_lw g r' := by
  obtain ⟨⟨L, a1, a2⟩, ⟨M, b1, b2⟩⟩ := h
  exact ⟨⟨L, a1, fun A B C => by rw [a2, p_law_of (u := 0) h6 hh]⟩, ⟨M, b1, fun A B C => by rw [b2, p_law_of (u := 1) h7 hh]⟩⟩
theorem p_o_one {w : Nat} (hw : w < 6) (h0 : p_eo (p_o r w 0)) (h1 : p_eo (p_o r w 1)) (hI : p_inv c r) {s : Nat} (hs : s < 2) (w' : Nat) : p_o (p_one r w) w' s = p_o r w' s ∨ p_o (p_one r w) w' s = -1 := by
  unfold p_one
  split
  · left; rw [p_o_uo _ _ _ _ _ _ (by omega) (by omega), if_neg (by omega)]
  · rename_i hn
    obtain ⟨-, a4⟩ := p_inv_look2 hI hw (p_eo_n (p_heeded_eo h0 h1) hn).2 h0 h1
    unfold p_look
    split
    · unfold p_take
      rw [p_o_uo _ _ _ _ _ _ (by omega) (by omega), if_neg (by omega)]
      split
      · rw [p_o_uo _ _ _ _ _ _ (by omega) (by omega)]
        split
        · right; rfl
        · left; exact a4 s hs w'
      · rw [p_o_uo _ _ _ _ _ _ (by omega) (by omega)]
        split
        · right; rfl
        · left; exact a4 s hs w'
    · left; exact a4 s hs w'
/-- all that an hour needs -/
def p_ok (g : ge_G) (c V : Nat) (r : Nat → Int32) : Prop := p_inv c r ∧ r 3 = nI V ∧ V ≤ 6 ∧ p_uq V r ∧ c_lw g r
theorem p_ok_one {V w : Nat} (h : p_ok g c V r) (hw : w < V) : p_ok g c V (p_one r w) := by
  obtain ⟨hI, e3, hV, hu, hL⟩ := h
  have h0 := p_e1_eo (p_inv_e1 hI e3 hV hw (s := 0) (by omega))
  have h1 := p_e1_eo (p_inv_e1 hI e3 hV hw (s := 1) (by omega))
  refine ⟨p_inv_one hI (by omega) h0 h1, by rw [p_lo_one 3 (by omega)]; exact e3, hV, fun w1 w2 s1 s2 k1 k2 k3 k4 k5 => ?_, c_lw_of (p_lo_one 6 (by omega)) (p_lo_one 7 (by omega)) (fun i hi => p_hi_one (by omega) h0 h1 hi) hL⟩
  rcases p_o_one (w := w) (by omega) h0 h1 hI k3 w1 with q1 | q1
  · rcases p_o_one (w := w) (by omega) h0 h1 hI k4 w2 with q2 | q2
    · rw [q1, q2] at k5
      rw [q1]
      exact hu w1 w2 s1 s2 k1 k2 k3 k4 k5
    · left; rw [k5]; exact q2
  · left; exact q1
theorem p_ok_ones {V : Nat} (h : p_ok g c V r) : ∀ w, w ≤ V → p_ok g c V (p_ones r w) := by
  intro w
  induction w with
  | zero => intro _; exact h
  | succ w ih => intro hw; exact p_ok_one (ih (by omega)) (by omega)
theorem p_ok_hour {V : Nat} (h : p_ok g (c + 1) V r) : p_ok g c V (p_hour r) := by
  have a := p_ok_ones h V (Nat.le_refl _)
  obtain ⟨-, e3, hV, hu, hL⟩ := a
  have en : p_n (r 3) = V := by rw [h.2.1, p_n_nI (by have := h.2.2.1; omega)]
  have e : p_hour r = upd (p_ones r V) 0 (p_ones r V 0 + 1) := by unfold p_hour; rw [en]
  have eo : ∀ w k, p_o (p_hour r) w k = p_o (p_ones r V) w k := fun w k => by rw [e]; unfold p_o upd; rw [if_neg (by omega)]
  refine ⟨p_inv_hour h.1, by rw [e]; exact e3, hV, fun w1 w2 s1 s2 k1 k2 k3 k4 k5 => ?_, c_lw_of (by rw [e]; rfl) (by rw [e]; rfl) (fun i hi => by rw [e]; simp only [upd]; rw [if_neg (by omega)]) hL⟩
  rw [eo, eo] at k5
  rw [eo]
  exact hu w1 w2 s1 s2 k1 k2 k3 k4 k5
theorem p_ok_hrs {V : Nat} : ∀ n, p_ok g (c + n) V r → p_ok g c V (p_hrs r n) := by
  intro n
  induction n generalizing c with
  | zero => intro h; exact h
  | succ n ih => intro h; exact p_ok_hour (ih (c := c + 1) (by rw [show c + 1 + n = c + (n + 1) by omega]; exact h))
def p_xs (x r : Nat → Int32) : Nat → Nat → Int32
  | 0 => x
  | w + 1 => p_xf (p_xs x r w) (p_ones r w) w
def p_hs (hb r : Nat → Int32) : Nat → Nat → Int32
  | 0 => hb
  | w + 1 => upd (p_hs hb r w) w (p_hf (p_ones r w) w)
def p_xh (x r : Nat → Int32) (V : Nat) : Nat → Nat → Int32
  | 0 => x
  | n + 1 => p_xs (p_xh x r V n) (p_hrs r n) V
def p_hh (hb r : Nat → Int32) (V : Nat) : Nat → Nat → Int32
  | 0 => hb
  | n + 1 => p_hs (p_hh hb r V n) (p_hrs r n) V
theorem p_xf_18 (w : Nat) : p_xf x r w 18 = x 18 := by
  unfold p_xf p_xt
  repeat' split
  all_goals simp [upd]
theorem p_xs_18 : ∀ w, p_xs x r w 18 = x 18 := by
  intro w
  induction w with
  | zero => rfl
  | succ w ih => show p_xf _ _ w 18 = _; rw [p_xf_18, ih]
theorem p_xh_18 (V : Nat) : ∀ n, p_xh x r V n 18 = x 18 := by
  intro n
  induction n with
  | zero => rfl
  | succ n ih => show p_xs _ _ V 18 = _; rw [p_xs_18, ih]
set_option maxHeartbeats 1000000 in
theorem k_hours_25 {n : Int32} {N V : Nat} (hN : n = nI N) (hN2 : N ≤ 100) (h : p_ok g (c + N) V r) (hx : x 18 = -1) : ge_N X ge_SH YX10_passHours 5 [.ref (ge_ad X.1 25), .int n] (ge_k g 25 r x hb) none (ge_k g 25 (p_hrs r N) (p_xh x r V N) (p_hh hb r V N)) := by
  refine gq_ofB (l := [(0, .ref (ge_ad X.1 25)), (1, .int n)]) (by decide) (Nat.le_of_ble_eq_true rfl) rfl ?_
  have key : ∀ (m i : Nat), i + m = N → ge_B X ge_SH YX10_passHours 5 (fun v2 g2 => v2 = none ∧ g2 = ge_k g 25 (p_hrs r N) (p_xh x r V N) (p_hh hb r V N)) 2 [(2, .int (nI i)), (0, .ref (ge_ad X.1 25)), (1, .int n)] [] (ge_k g 25 (p_hrs r i) (p_xh x r V i) (p_hh hb r V i)) := by
    intro m
    induction m with
    | zero =>
      intro i hi
      obtain rfl : i = N := hi
      refine gq_iload_n (pc := 2) dX10_passHours_2 rfl ?_
      refine gq_iload_n (pc := 3) dX10_passHours_3 rfl ?_
      refine gq_ic_ge (pc := 4) 44 dX10_passHours_4 (by decide) (fun h_4 => ?_) (fun h_4 => ?_)
      · exact gq_vret (pc := 44) rfl dX10_passHours_44 ⟨rfl, rfl⟩
      · exact absurd (by rw [hN]; exact Int32.le_refl _) h_4
    | succ m ih =>
      intro i hi
      have hk := p_ok_hrs (g := g) (c := c + N - i) (r := r) (V := V) i (by rw [show c + N - i + i = c + N by omega]; exact h)
      have inner : ∀ (m2 w : Nat), w + m2 = V → ge_B X ge_SH YX10_passHours 5 (fun v2 g2 => v2 = none ∧ g2 = ge_k g 25 (p_hrs r N) (p_xh x r V N) (p_hh hb r V N)) 9 [(3, .int (nI w)), (2, .int (nI i)), (0, .ref (ge_ad X.1 25)), (1, .int n)] [] (ge_k g 25 (p_ones (p_hrs r i) w) (p_xs (p_xh x r V i) (p_hrs r i) w) (p_hs (p_hh hb r V i) (p_hrs r i) w)) := by
        intro m2
        induction m2 with
        | zero =>
          intro w hw
          obtain rfl : w = V := hw
          have hw2 := p_ok_ones hk w (Nat.le_refl _)
          refine gq_iload_n (pc := 9) dX10_passHours_9 rfl ?_
          refine gq_aload_n (pc := 10) dX10_passHours_10 rfl ?_
          refine kq_get12 (pw := 25) (pc := 11) (by decide) dX10_passHours_11 fl_X10_66_10 ?_
          rw [hw2.2.1]
          refine gq_ic_ge (pc := 14) 28 dX10_passHours_14 (by decide) (fun h_14 => ?_) (fun h_14 => ?_)
          · refine gq_aload_n (pc := 28) dX10_passHours_28 rfl ?_
            refine gq_dup (pc := 29) dX10_passHours_29 rfl ?_
            refine kq_get13 (pw := 25) (pc := 30) (by decide) dX10_passHours_30 fl_X10_69_10 ?_
            refine gq_iconst (pc := 33) dX10_passHours_33 kc_1 ?_
            refine gq_iadd (pc := 34) dX10_passHours_34 ?_
            refine kq_put13 (pw := 25) (pc := 35) (by decide) dX10_passHours_35 fp_X10_69_10 ?_
            refine gq_iinc (pc := 38) (l' := [(2, _), (3, _), (0, _), (1, _)]) dX10_passHours_38 rfl (ge_inc1 i) (by decide) rfl ?_
            refine gq_goto (pc := 41) 2 dX10_passHours_41 (by decide) ?_
            refine gq_sub [0, 2, 3] rfl ?_
            refine gq_tog ?_ (ih (i + 1) (by omega))
            show ge_k g 25 (p_hour (p_hrs r i)) _ _ = _
            unfold p_hour
            rw [show p_n (p_hrs r i 3) = w by rw [hk.2.1, p_n_nI (by have := hk.2.2.1; omega)]]
            rfl
          · exact absurd (Int32.le_refl _) h_14
        | succ m2 ih2 =>
          intro w hw
          have hw2 := p_ok_ones hk w (by omega)
          have hV := hk.2.2.1
          refine gq_iload_n (pc := 9) dX10_passHours_9 rfl ?_
          refine gq_aload_n (pc := 10) dX10_passHours_10 rfl ?_
          refine kq_get12 (pw := 25) (pc := 11) (by decide) dX10_passHours_11 fl_X10_66_10 ?_
          rw [hw2.2.1]
          refine gq_ic_ge (pc := 14) 28 dX10_passHours_14 (by decide) (fun h_14 => ?_) (fun h_14 => ?_)
          · exact absurd ((nI_leI (by omega) (by omega)).mp h_14) (by omega)
          · refine gq_aload_n (pc := 17) dX10_passHours_17 rfl ?_
            refine gq_iload_n (pc := 18) dX10_passHours_18 rfl ?_
            refine gq_rV1v (pc := 19) dX10_passHours_19 cv_X10_108 sh_25 (k_pass_25 hw2.1 hw2.2.2.2.2 hV hw2.2.1 rfl (by omega) hw2.2.2.2.1 (by rw [p_xs_18, p_xh_18, hx]; exact fun z => absurd (show nI w < 0 by rw [z]; decide) (nI_pos (by omega))) (p_inv_e1 hw2.1 hw2.2.1 hV (by omega) (by omega)) (p_inv_e1 hw2.1 hw2.2.1 hV (by omega) (by omega))) ⟨by decide, by decide⟩ rfl rfl (Nat.le_of_ble_eq_true rfl) ?_
            refine gq_iinc (pc := 22) (l' := [(3, _), (2, _), (0, _), (1, _)]) dX10_passHours_22 rfl (ge_inc1 w) (by decide) rfl ?_
            refine gq_goto (pc := 25) 9 dX10_passHours_25 (by decide) ?_
            exact ih2 (w + 1) (by omega)
      refine gq_iload_n (pc := 2) dX10_passHours_2 rfl ?_
      refine gq_iload_n (pc := 3) dX10_passHours_3 rfl ?_
      refine gq_ic_ge (pc := 4) 44 dX10_passHours_4 (by decide) (fun h_4 => ?_) (fun h_4 => ?_)
      · exact absurd ((nI_leI (by omega) (by omega)).mp (hN ▸ h_4)) (by omega)
      · refine gq_iconst (pc := 7) dX10_passHours_7 kc_0 ?_
        refine gq_istore_n (pc := 8) (l' := [(3, _), (2, _), (0, _), (1, _)]) dX10_passHours_8 (by decide) rfl ?_
        exact inner V 0 (by omega)
  refine gq_iconst (pc := 0) dX10_passHours_0 kc_0 ?_
  refine gq_istore_n (pc := 1) (l' := [(2, _), (0, _), (1, _)]) dX10_passHours_1 (by decide) rfl ?_
  exact key N 0 (by omega)
set_option maxHeartbeats 1000000 in
theorem k_hours_35 {n : Int32} {N V : Nat} (hN : n = nI N) (hN2 : N ≤ 100) (h : p_ok g (c + N) V r) (hx : x 18 = -1) : ge_N X ge_SH YX10_passHours 5 [.ref (ge_ad X.1 35), .int n] (ge_k g 35 r x hb) none (ge_k g 35 (p_hrs r N) (p_xh x r V N) (p_hh hb r V N)) := by
  refine gq_ofB (l := [(0, .ref (ge_ad X.1 35)), (1, .int n)]) (by decide) (Nat.le_of_ble_eq_true rfl) rfl ?_
  have key : ∀ (m i : Nat), i + m = N → ge_B X ge_SH YX10_passHours 5 (fun v2 g2 => v2 = none ∧ g2 = ge_k g 35 (p_hrs r N) (p_xh x r V N) (p_hh hb r V N)) 2 [(2, .int (nI i)), (0, .ref (ge_ad X.1 35)), (1, .int n)] [] (ge_k g 35 (p_hrs r i) (p_xh x r V i) (p_hh hb r V i)) := by
    intro m
    induction m with
    | zero =>
      intro i hi
      obtain rfl : i = N := hi
      refine gq_iload_n (pc := 2) dX10_passHours_2 rfl ?_
      refine gq_iload_n (pc := 3) dX10_passHours_3 rfl ?_
      refine gq_ic_ge (pc := 4) 44 dX10_passHours_4 (by decide) (fun h_4 => ?_) (fun h_4 => ?_)
      · exact gq_vret (pc := 44) rfl dX10_passHours_44 ⟨rfl, rfl⟩
      · exact absurd (by rw [hN]; exact Int32.le_refl _) h_4
    | succ m ih =>
      intro i hi
      have hk := p_ok_hrs (g := g) (c := c + N - i) (r := r) (V := V) i (by rw [show c + N - i + i = c + N by omega]; exact h)
      have inner : ∀ (m2 w : Nat), w + m2 = V → ge_B X ge_SH YX10_passHours 5 (fun v2 g2 => v2 = none ∧ g2 = ge_k g 35 (p_hrs r N) (p_xh x r V N) (p_hh hb r V N)) 9 [(3, .int (nI w)), (2, .int (nI i)), (0, .ref (ge_ad X.1 35)), (1, .int n)] [] (ge_k g 35 (p_ones (p_hrs r i) w) (p_xs (p_xh x r V i) (p_hrs r i) w) (p_hs (p_hh hb r V i) (p_hrs r i) w)) := by
        intro m2
        induction m2 with
        | zero =>
          intro w hw
          obtain rfl : w = V := hw
          have hw2 := p_ok_ones hk w (Nat.le_refl _)
          refine gq_iload_n (pc := 9) dX10_passHours_9 rfl ?_
          refine gq_aload_n (pc := 10) dX10_passHours_10 rfl ?_
          refine kq_get12 (pw := 35) (pc := 11) (by decide) dX10_passHours_11 fl_X10_66_10 ?_
          rw [hw2.2.1]
          refine gq_ic_ge (pc := 14) 28 dX10_passHours_14 (by decide) (fun h_14 => ?_) (fun h_14 => ?_)
          · refine gq_aload_n (pc := 28) dX10_passHours_28 rfl ?_
            refine gq_dup (pc := 29) dX10_passHours_29 rfl ?_
            refine kq_get13 (pw := 35) (pc := 30) (by decide) dX10_passHours_30 fl_X10_69_10 ?_
            refine gq_iconst (pc := 33) dX10_passHours_33 kc_1 ?_
            refine gq_iadd (pc := 34) dX10_passHours_34 ?_
            refine kq_put13 (pw := 35) (pc := 35) (by decide) dX10_passHours_35 fp_X10_69_10 ?_
            refine gq_iinc (pc := 38) (l' := [(2, _), (3, _), (0, _), (1, _)]) dX10_passHours_38 rfl (ge_inc1 i) (by decide) rfl ?_
            refine gq_goto (pc := 41) 2 dX10_passHours_41 (by decide) ?_
            refine gq_sub [0, 2, 3] rfl ?_
            refine gq_tog ?_ (ih (i + 1) (by omega))
            show ge_k g 35 (p_hour (p_hrs r i)) _ _ = _
            unfold p_hour
            rw [show p_n (p_hrs r i 3) = w by rw [hk.2.1, p_n_nI (by have := hk.2.2.1; omega)]]
            rfl
          · exact absurd (Int32.le_refl _) h_14
        | succ m2 ih2 =>
          intro w hw
          have hw2 := p_ok_ones hk w (by omega)
          have hV := hk.2.2.1
          refine gq_iload_n (pc := 9) dX10_passHours_9 rfl ?_
          refine gq_aload_n (pc := 10) dX10_passHours_10 rfl ?_
          refine kq_get12 (pw := 35) (pc := 11) (by decide) dX10_passHours_11 fl_X10_66_10 ?_
          rw [hw2.2.1]
          refine gq_ic_ge (pc := 14) 28 dX10_passHours_14 (by decide) (fun h_14 => ?_) (fun h_14 => ?_)
          · exact absurd ((nI_leI (by omega) (by omega)).mp h_14) (by omega)
          · refine gq_aload_n (pc := 17) dX10_passHours_17 rfl ?_
            refine gq_iload_n (pc := 18) dX10_passHours_18 rfl ?_
            refine gq_rV1v (pc := 19) dX10_passHours_19 cv_X10_108 sh_35 (k_pass_35 hw2.1 hw2.2.2.2.2 hV hw2.2.1 rfl (by omega) hw2.2.2.2.1 (by rw [p_xs_18, p_xh_18, hx]; exact fun z => absurd (show nI w < 0 by rw [z]; decide) (nI_pos (by omega))) (p_inv_e1 hw2.1 hw2.2.1 hV (by omega) (by omega)) (p_inv_e1 hw2.1 hw2.2.1 hV (by omega) (by omega))) ⟨by decide, by decide⟩ rfl rfl (Nat.le_of_ble_eq_true rfl) ?_
            refine gq_iinc (pc := 22) (l' := [(3, _), (2, _), (0, _), (1, _)]) dX10_passHours_22 rfl (ge_inc1 w) (by decide) rfl ?_
            refine gq_goto (pc := 25) 9 dX10_passHours_25 (by decide) ?_
            exact ih2 (w + 1) (by omega)
      refine gq_iload_n (pc := 2) dX10_passHours_2 rfl ?_
      refine gq_iload_n (pc := 3) dX10_passHours_3 rfl ?_
      refine gq_ic_ge (pc := 4) 44 dX10_passHours_4 (by decide) (fun h_4 => ?_) (fun h_4 => ?_)
      · exact absurd ((nI_leI (by omega) (by omega)).mp (hN ▸ h_4)) (by omega)
      · refine gq_iconst (pc := 7) dX10_passHours_7 kc_0 ?_
        refine gq_istore_n (pc := 8) (l' := [(3, _), (2, _), (0, _), (1, _)]) dX10_passHours_8 (by decide) rfl ?_
        exact inner V 0 (by omega)
  refine gq_iconst (pc := 0) dX10_passHours_0 kc_0 ?_
  refine gq_istore_n (pc := 1) (l' := [(2, _), (0, _), (1, _)]) dX10_passHours_1 (by decide) rfl ?_
  exact key N 0 (by omega)
end W7
