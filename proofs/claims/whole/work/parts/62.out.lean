section T7
variable {X : ge_X} {g : ge_G} {r x hb r2 x2 hb2 f : Nat → Int32} {c V : Nat}
/-- the first that is so -/
def p_fi (P : Nat → Bool) : Nat → Nat → Nat
  | 0, i => i
  | m + 1, i => if P i = true then i else p_fi P m (i + 1)
theorem p_fi_y {P : Nat → Bool} {m i : Nat} (h : P i = true) : p_fi P (m + 1) i = i := if_pos h
theorem p_fi_n {P : Nat → Bool} {m i : Nat} (h : ¬ P i = true) : p_fi P (m + 1) i = p_fi P m (i + 1) := if_neg h
theorem p_fi_in (P : Nat → Bool) : ∀ m i, i ≤ p_fi P m i ∧ p_fi P m i ≤ i + m := by
  intro m
  induction m with
  | zero => intro i; exact ⟨Nat.le_refl _, Nat.le_refl _⟩
  | succ m ih =>
    intro i
    unfold p_fi
    split
    · omega
    · have := ih (i + 1); omega
/-- the first who takes one out, of the wearers below w; 6: nobody -/
def p_ft (r : Nat → Int32) : Nat → Nat
  | 0 => 6
  | w + 1 => if p_ft r w < 6 then p_ft r w else if p_heeded (p_ones r w) w < 0 then 6 else if p_left (p_ones r w) w (p_n (p_heeded (p_ones r w) w)) = 0 then w else 6
theorem p_ft_s (r : Nat → Int32) (w : Nat) : p_ft r (w + 1) = if p_ft r w < 6 then p_ft r w else if p_heeded (p_ones r w) w < 0 then 6 else if p_left (p_ones r w) w (p_n (p_heeded (p_ones r w) w)) = 0 then w else 6 := rfl
def p_low1 (k : Nat) : Nat := if k % 2 = 1 then 0 else if k / 2 % 2 = 1 then 1 else if k / 4 % 2 = 1 then 2 else if k / 8 % 2 = 1 then 3 else if k / 16 % 2 = 1 then 4 else if k / 32 % 2 = 1 then 5 else 6
theorem p_low1_or : ∀ w, w < 6 → ∀ k, k < 2 ^ w → p_low1 (k ||| 2 ^ w) = if p_low1 k < 6 then p_low1 k else w := by decide +kernel
theorem p_low1_0 : ∀ k, k < 64 → ∀ w, w < p_low1 k → (nI k >>> (nI w &&& 31)) &&& 1 = 0 := by decide +kernel
theorem p_low1_1 : ∀ k, k < 64 → k ≠ 0 → (nI k >>> (nI (p_low1 k) &&& 31)) &&& 1 = 1 := by decide +kernel
theorem p_low1_le : ∀ k, k < 64 → p_low1 k ≤ 6 ∧ (k ≠ 0 → p_low1 k < 6) ∧ (p_pop k = 0 ↔ k = 0) := by decide +kernel
theorem p_tks_ft : ∀ w, w ≤ 6 → ∃ k, k < 2 ^ w ∧ p_tks r w = nI k ∧ p_low1 k = p_ft r w := by
  intro w
  induction w with
  | zero => intro _; exact ⟨0, by decide, rfl, rfl⟩
  | succ w ih =>
    intro hw
    obtain ⟨k, hk, ek, ep⟩ := ih (by omega)
    have h2 : 2 ^ w < 2 ^ (w + 1) := Nat.pow_lt_pow_right (by decide) (by omega)
    show ∃ k, k < 2 ^ (w + 1) ∧ p_tk (p_ones r w) w (p_tks r w) = nI k ∧ p_low1 k = p_ft r (w + 1)
    have hle : p_ft r w ≤ 6 := by
      have h6 : k < 64 := Nat.lt_of_lt_of_le hk (Nat.pow_le_pow_right (n := 2) (by decide) (show w ≤ 6 by omega))
      rw [← ep]; exact (p_low1_le k h6).1
    unfold p_tk
    rw [ek, p_ft_s]
    by_cases h : p_heeded (p_ones r w) w < 0
    · rw [if_pos h]
      refine ⟨k, by omega, rfl, ?_⟩
      by_cases h6 : p_ft r w < 6
      · rw [if_pos h6, ep]
      · rw [if_neg h6, if_pos h, ep]; omega
    · rw [if_neg h]
      by_cases h3 : p_left (p_ones r w) w (p_n (p_heeded (p_ones r w) w)) = 0
      · rw [if_pos h3]
        refine ⟨k ||| 2 ^ w, Nat.or_lt_two_pow (by omega) h2, by rw [p_bit_nI w (by omega), p_or_nI], ?_⟩
        rw [p_low1_or w (by omega) k hk, ep]
        by_cases h6 : p_ft r w < 6
        · rw [if_pos h6, if_pos h6]
        · rw [if_neg h6, if_neg h6, if_neg h, if_pos h3]
      · rw [if_neg h3]
        refine ⟨k, by omega, rfl, ?_⟩
        by_cases h6 : p_ft r w < 6
        · rw [if_pos h6, ep]
        · rw [if_neg h6, if_neg h, if_neg h3, ep]; omega
theorem p_T_ft (hV : V ≤ 6) (e3 : r 3 = nI V) : p_low1 (p_n (p_T r)) = p_ft r V := by
  obtain ⟨k, hk, ek, ep⟩ := p_tks_ft (r := r) V hV
  have h2 : 2 ^ V ≤ 2 ^ 6 := Nat.pow_le_pow_right (by decide) hV
  unfold p_T
  rw [e3, p_n_nI (by omega), ek, p_n_nI (by omega), ep]
theorem p_xf_16 (w : Nat) : p_xf x r w 16 = if p_heeded r w < 0 then x 16 else if p_left r w (p_n (p_heeded r w)) = 0 then (if x 15 = 0 then nI w else x 16) else x 16 := by
  unfold p_xf p_xt
  by_cases h : p_heeded r w < 0
  · rw [if_pos h, if_pos h]
  · rw [if_neg h, if_neg h]
    by_cases h2 : p_left r w (p_n (p_heeded r w)) = 0
    · rw [if_pos h2, if_pos h2]
      by_cases h3 : x 15 = 0
      · rw [if_pos h3, if_pos (show upd x 17 _ 15 = 0 from h3)]; rfl
      · rw [if_neg h3, if_neg (show ¬ upd x 17 _ 15 = 0 from h3)]; rfl
    · rw [if_neg h2, if_neg h2]; rfl
theorem p_ct_ft : ∀ w, w ≤ 6 → (p_ct r w = 0 ↔ p_ft r w = 6) ∧ p_ft r w ≤ 6 ∧ p_ct r w ≤ w := by
  intro w
  induction w with
  | zero => intro _; exact ⟨⟨fun _ => rfl, fun _ => rfl⟩, Nat.le_refl _, Nat.le_refl _⟩
  | succ w ih =>
    intro hw
    obtain ⟨a, b, b2⟩ := ih (by omega)
    rw [p_ct_s, p_ft_s]
    by_cases h : p_heeded (p_ones r w) w < 0
    · rw [if_pos h, if_pos h]
      split <;> omega
    · rw [if_neg h, if_neg h]
      by_cases h3 : p_left (p_ones r w) w (p_n (p_heeded (p_ones r w) w)) = 0
      · rw [if_pos h3, if_pos h3]
        split <;> omega
      · rw [if_neg h3, if_neg h3]
        split <;> omega
theorem p_xs_16 (h0 : x 15 = 0) : ∀ w, w ≤ 6 → p_xs x r w 16 = if p_ft r w < 6 then nI (p_ft r w) else x 16 := by
  intro w
  induction w with
  | zero => intro _; rfl
  | succ w ih =>
    intro hw
    have h15 : p_xs x r w 15 = nI (0 + p_ct r w) := p_xs_15 0 h0 w
    rw [Nat.zero_add] at h15
    obtain ⟨a, b, b2⟩ := p_ct_ft (r := r) w (by omega)
    show p_xf (p_xs x r w) (p_ones r w) w 16 = _
    rw [p_xf_16, ih (by omega), p_ft_s, h15]
    by_cases h : p_heeded (p_ones r w) w < 0
    · rw [if_pos h, if_pos h]
      by_cases h6 : p_ft r w < 6
      · rw [if_pos h6, if_pos h6, if_pos h6]
      · rw [if_neg h6, if_neg h6, if_neg (by decide)]
    · rw [if_neg h, if_neg h]
      by_cases h3 : p_left (p_ones r w) w (p_n (p_heeded (p_ones r w) w)) = 0
      · rw [if_pos h3, if_pos h3]
        by_cases h6 : p_ft r w < 6
        · rw [if_pos h6, if_pos h6, if_pos h6, if_neg (nI_ne0 (by omega) (by omega))]
        · rw [if_neg h6, if_neg h6, if_pos (show nI (p_ct r w) = 0 by rw [a.mpr (by omega)]; rfl), if_pos (show w < 6 by omega)]
      · rw [if_neg h3, if_neg h3]
        by_cases h6 : p_ft r w < 6
        · rw [if_pos h6, if_pos h6, if_pos h6]
        · rw [if_neg h6, if_neg h6, if_neg (by decide)]
/-- somebody takes one out in hour i -/
def p_op (r : Nat → Int32) (i : Nat) : Bool := decide (¬ p_T (p_hrs r i) = 0)
theorem p_op_n {i : Nat} (h : ¬ p_op r i = true) : p_T (p_hrs r i) = 0 := by unfold p_op at h; simp at h; exact h
theorem p_op_y {i : Nat} (h : p_op r i = true) : ¬ p_T (p_hrs r i) = 0 := by unfold p_op at h; simp at h; exact h
def p_oR (r : Nat → Int32) : Nat := p_fi (p_op r) 60 0
/-- the reference's fields in out -/
def p_of (f r : Nat → Int32) : Nat → Nat → Int32
  | 0 => p_tb f 0 (f 16)
  | n + 1 => p_tb f (p_T (p_hrs r n)) (p_Bo (p_hrs r n))
theorem p_of_o {n j : Nat} (h : j ≠ 15 ∧ j ≠ 16) : p_of f r n j = f j := by
  cases n with
  | zero => exact p_tb_o h
  | succ n => exact p_tb_o h
theorem p_of_0 : p_of f r 0 = upd f 15 0 := by
  funext k
  by_cases h15 : k = 15
  · subst h15; rfl
  · by_cases h16 : k = 16
    · subst h16; rfl
    · rw [p_of_o ⟨h15, h16⟩, pk_un h15]
theorem p_of_s (n : Nat) : p_tb (p_of f r n) (p_T (p_hrs r n)) (p_Bo (p_hrs r n)) = p_of f r (n + 1) := by
  cases n with
  | zero => show p_tb (p_tb f 0 (f 16)) _ _ = p_tb f _ _; rw [p_tb_tb]
  | succ n => show p_tb (p_tb f _ _) _ _ = p_tb f _ _; rw [p_tb_tb]
theorem p_outs_op {i : Nat} (h : p_ok g (c + 1) V (p_hrs r i)) (h0 : p_outs r i = 0) : (p_op r i = true ↔ ¬ p_outs r (i + 1) = 0) ∧ p_outs r (i + 1) ≤ 10 := by
  have hT := p_T_in h.1
  have hp := p_low1_le _ hT.2
  show (p_op r i = true ↔ ¬ p_outs r i + p_pop (p_n (p_T (p_hrs r i))) = 0) ∧ p_outs r i + p_pop (p_n (p_T (p_hrs r i))) ≤ 10
  rw [h0, Nat.zero_add]
  refine ⟨?_, p_pop_le _ (by omega)⟩
  unfold p_op
  rw [decide_eq_true_eq, hp.2.2]
  constructor
  · intro z q; exact z (by rw [hT.1, q]; rfl)
  · intro z q; exact z (by rw [q]; rfl)
set_option maxHeartbeats 1000000 in
theorem c_out_ok0 (h : p_ok g (c + 61) V r) (hR0 : p_oR r < 60) : ge_N X ge_SH YX11_out 6 [.ref (ge_ad X.1 0), .int 0] (ge_k g 25 r x hb) (some (.int (nI (p_oR r + 1)))) (ge_k (ge_t1 g r V (p_oR r + 1)) 25 r x hb) := by
  refine gq_ofB (l := [(0, .ref (ge_ad X.1 0)), (1, .int 0)]) (by decide) (Nat.le_of_ble_eq_true rfl) rfl ?_
  have key : ∀ (m i : Nat), i + m = 60 → p_fi (p_op r) m i = p_oR r → p_outs r i = 0 → ge_B X ge_SH YX11_out 6 (fun v2 g2 => v2 = (some (.int (nI (p_oR r + 1)))) ∧ g2 = (ge_k (ge_t1 g r V (p_oR r + 1)) 25 r x hb)) 28 [(2, .int (nI (i + 1))), (0, .ref (ge_ad X.1 0)), (1, .int 0)] [] (ge_k (ge_t1 g r V (i)) 25 r x hb) := by
    intro m
    induction m with
    | zero =>
      intro i hi hR h0
      obtain rfl : i = 60 := hi
      have hR : 60 = p_oR r := hR
      refine gq_iload_n (pc := 28) dX11_out_28 rfl ?_
      refine gq_bipush (pc := 29) dX11_out_29 kb_60 ?_
      refine gq_ic_gt (pc := 31) 74 dX11_out_31 (by decide) (fun h_31 => ?_) (fun h_31 => ?_)
      · exact absurd hR (by omega)
      · exact absurd (by decide) h_31
    | succ m ih =>
      intro i hi hR h0
      have hh : p_ok g (c + 1) V (p_hrs r i) := p_ok_weak (p_ok_hrs (c := c + (61 - i)) i (by rw [show c + (61 - i) + i = c + 61 by omega]; exact h)) (by omega)
      obtain ⟨hop, ho10⟩ := p_outs_op hh h0
      have e15 : p_xh (p_x0 (g 35)) r V (i + 1) 15 = nI (p_outs r (i + 1)) := by { have := p_xh_15 (g := g) (c := c) (x := p_x0 (g 35)) (V := V) 0 rfl (i + 1) (p_ok_weak h (by omega)); rw [Nat.zero_add] at this; exact this }
      refine gq_iload_n (pc := 28) dX11_out_28 rfl ?_
      refine gq_bipush (pc := 29) dX11_out_29 kb_60 ?_
      refine gq_ic_gt (pc := 31) 74 dX11_out_31 (by decide) (fun h_31 => ?_) (fun h_31 => ?_)
      · exact absurd h_31 (nI_nlt (a := 60) (by omega) (by decide))
      · refine gq_aload_n (pc := 34) dX11_out_34 rfl ?_
        refine gq_getr (pc := 35) dX11_out_35 fl_X11_64_11 sh_0 rfl ?_
        refine gq_iconst (pc := 38) dX11_out_38 kc_1 ?_
        refine gq_rV1v (pc := 39) dX11_out_39 cv_X11_214 sh_35 (c_th1 (c := c) (p_ok_weak h (by omega))) ⟨by decide, by decide⟩ rfl rfl (Nat.le_of_ble_eq_true rfl) ?_
        refine gq_aload_n (pc := 42) dX11_out_42 rfl ?_
        refine gq_getr (pc := 43) dX11_out_43 fl_X11_64_11 sh_0 rfl ?_
        refine kt_get15 (pc := 46) dX11_out_46 fl_X11_211_10 ?_
        rw [e15]
        refine gq_if_le (pc := 49) 68 dX11_out_49 (by decide) (fun h_49 => ?_) (fun h_49 => ?_)
        · have q0 : p_outs r (i + 1) = 0 := by have := (nI_leI (b := 0) (by omega) (by omega)).mp h_49; omega
          rw [p_fi_n (fun z => hop.mp z q0)] at hR
          refine gq_iinc (pc := 68) (l' := [(2, _), (0, _), (1, _)]) dX11_out_68 rfl (ge_inc1 (i + 1)) (by decide) rfl ?_
          refine gq_goto (pc := 71) 28 dX11_out_71 (by decide) ?_
          refine gq_sub [0, 1, 2] rfl ?_
          exact ih (i + 1) (by omega) hR q0
        · have q0 : ¬ p_outs r (i + 1) = 0 := fun z => h_49 (by rw [z]; decide)
          rw [p_fi_y (hop.mpr q0)] at hR
          refine gq_iload_n (pc := 52) dX11_out_52 rfl ?_
          refine gq_if_ne (pc := 53) 60 dX11_out_53 (by decide) (fun h_53 => ?_) (fun h_53 => ?_)
          · exact absurd h_53 (by decide)
          · refine gq_iload_n (pc := 56) dX11_out_56 rfl ?_
            refine gq_goto (pc := 57) 67 dX11_out_57 (by decide) ?_
            exact gq_iret (pc := 67) rfl dX11_out_67 ⟨by rw [← hR], by rw [← hR]; rfl⟩
  refine gq_iload_n (pc := 0) dX11_out_0 rfl ?_
  refine gq_iconst (pc := 1) dX11_out_1 kc_0 ?_
  refine gq_iconst (pc := 2) dX11_out_2 kc_1 ?_
  refine gq_rS3i (pc := 3) dX11_out_3 cs_X11_105 (c_outside _ _ _) ⟨by decide, by decide⟩ (Nat.le_of_ble_eq_true rfl) ?_
  refine gq_if_eq (pc := 6) 15 dX11_out_6 (by decide) (fun h_6 => ?_) (fun h_6 => ?_)
  · refine gq_aload_n (pc := 15) dX11_out_15 rfl ?_
    refine gq_getr (pc := 16) dX11_out_16 fl_X11_64_11 sh_0 rfl ?_
    refine gq_aload_n (pc := 19) dX11_out_19 rfl ?_
    refine gq_getr (pc := 20) dX11_out_20 fl_X11_60_11 sh_0 rfl ?_
    refine gq_rV1v (pc := 23) dX11_out_23 cv_X11_223 sh_35 (c_cp1 (V := V)) ⟨by decide, by decide⟩ rfl rfl (Nat.le_of_ble_eq_true rfl) ?_
    refine gq_iconst (pc := 26) dX11_out_26 kc_1 ?_
    refine gq_istore_n (pc := 27) (l' := [(2, _), (0, _), (1, _)]) dX11_out_27 (by decide) rfl ?_
    refine gq_sub [0, 1, 2] rfl ?_
    exact key 60 0 (by omega) rfl rfl
  · exact absurd (by decide) h_6
set_option maxHeartbeats 1000000 in
theorem c_out_ok1 (h : p_ok g (c + 61) V r) (hR0 : p_oR r < 60) : ge_N X ge_SH YX11_out 6 [.ref (ge_ad X.1 0), .int 1] (ge_k g 25 r x hb) (some (.int (nI (p_ft (p_hrs r (p_oR r)) V)))) (ge_k (ge_t1 g r V (p_oR r + 1)) 25 r x hb) := by
  refine gq_ofB (l := [(0, .ref (ge_ad X.1 0)), (1, .int 1)]) (by decide) (Nat.le_of_ble_eq_true rfl) rfl ?_
  have key : ∀ (m i : Nat), i + m = 60 → p_fi (p_op r) m i = p_oR r → p_outs r i = 0 → ge_B X ge_SH YX11_out 6 (fun v2 g2 => v2 = (some (.int (nI (p_ft (p_hrs r (p_oR r)) V)))) ∧ g2 = (ge_k (ge_t1 g r V (p_oR r + 1)) 25 r x hb)) 28 [(2, .int (nI (i + 1))), (0, .ref (ge_ad X.1 0)), (1, .int 1)] [] (ge_k (ge_t1 g r V (i)) 25 r x hb) := by
    intro m
    induction m with
    | zero =>
      intro i hi hR h0
      obtain rfl : i = 60 := hi
      have hR : 60 = p_oR r := hR
      refine gq_iload_n (pc := 28) dX11_out_28 rfl ?_
      refine gq_bipush (pc := 29) dX11_out_29 kb_60 ?_
      refine gq_ic_gt (pc := 31) 74 dX11_out_31 (by decide) (fun h_31 => ?_) (fun h_31 => ?_)
      · exact absurd hR (by omega)
      · exact absurd (by decide) h_31
    | succ m ih =>
      intro i hi hR h0
      have hh : p_ok g (c + 1) V (p_hrs r i) := p_ok_weak (p_ok_hrs (c := c + (61 - i)) i (by rw [show c + (61 - i) + i = c + 61 by omega]; exact h)) (by omega)
      obtain ⟨hop, ho10⟩ := p_outs_op hh h0
      have e15 : p_xh (p_x0 (g 35)) r V (i + 1) 15 = nI (p_outs r (i + 1)) := by { have := p_xh_15 (g := g) (c := c) (x := p_x0 (g 35)) (V := V) 0 rfl (i + 1) (p_ok_weak h (by omega)); rw [Nat.zero_add] at this; exact this }
      have e16 : p_xh (p_x0 (g 35)) r V i 15 = 0 := by { have := p_xh_15 (g := g) (c := c) (x := p_x0 (g 35)) (V := V) 0 rfl i (p_ok_weak h (by omega)); rw [Nat.zero_add, h0] at this; exact this }
      refine gq_iload_n (pc := 28) dX11_out_28 rfl ?_
      refine gq_bipush (pc := 29) dX11_out_29 kb_60 ?_
      refine gq_ic_gt (pc := 31) 74 dX11_out_31 (by decide) (fun h_31 => ?_) (fun h_31 => ?_)
      · exact absurd h_31 (nI_nlt (a := 60) (by omega) (by decide))
      · refine gq_aload_n (pc := 34) dX11_out_34 rfl ?_
        refine gq_getr (pc := 35) dX11_out_35 fl_X11_64_11 sh_0 rfl ?_
        refine gq_iconst (pc := 38) dX11_out_38 kc_1 ?_
        refine gq_rV1v (pc := 39) dX11_out_39 cv_X11_214 sh_35 (c_th1 (c := c) (p_ok_weak h (by omega))) ⟨by decide, by decide⟩ rfl rfl (Nat.le_of_ble_eq_true rfl) ?_
        refine gq_aload_n (pc := 42) dX11_out_42 rfl ?_
        refine gq_getr (pc := 43) dX11_out_43 fl_X11_64_11 sh_0 rfl ?_
        refine kt_get15 (pc := 46) dX11_out_46 fl_X11_211_10 ?_
        rw [e15]
        refine gq_if_le (pc := 49) 68 dX11_out_49 (by decide) (fun h_49 => ?_) (fun h_49 => ?_)
        · have q0 : p_outs r (i + 1) = 0 := by have := (nI_leI (b := 0) (by omega) (by omega)).mp h_49; omega
          rw [p_fi_n (fun z => hop.mp z q0)] at hR
          refine gq_iinc (pc := 68) (l' := [(2, _), (0, _), (1, _)]) dX11_out_68 rfl (ge_inc1 (i + 1)) (by decide) rfl ?_
          refine gq_goto (pc := 71) 28 dX11_out_71 (by decide) ?_
          refine gq_sub [0, 1, 2] rfl ?_
          exact ih (i + 1) (by omega) hR q0
        · have q0 : ¬ p_outs r (i + 1) = 0 := fun z => h_49 (by rw [z]; decide)
          rw [p_fi_y (hop.mpr q0)] at hR
          have e17 : p_xh (p_x0 (g 35)) r V (i + 1) 16 = nI (p_ft (p_hrs r i) V) := by
            show p_xs (p_xh (p_x0 (g 35)) r V i) (p_hrs r i) V 16 = _
            rw [p_xs_16 e16 V hh.2.2.1]
            have := p_ct_ft (r := p_hrs r i) V hh.2.2.1
            have q1 : ¬ p_ct (p_hrs r i) V = 0 := fun z => q0 (by show p_outs r i + p_pop (p_n (p_T (p_hrs r i))) = 0; rw [h0, p_T_pop hh.2.2.1 hh.2.1, z])
            rw [if_pos (by omega)]
          refine gq_iload_n (pc := 52) dX11_out_52 rfl ?_
          refine gq_if_ne (pc := 53) 60 dX11_out_53 (by decide) (fun h_53 => ?_) (fun h_53 => ?_)
          · refine gq_aload_n (pc := 60) dX11_out_60 rfl ?_
            refine gq_getr (pc := 61) dX11_out_61 fl_X11_64_11 sh_0 rfl ?_
            refine kt_get16 (pc := 64) dX11_out_64 fl_X11_226_10 ?_
            exact gq_iret (pc := 67) rfl dX11_out_67 ⟨by rw [← hR, e17], by rw [← hR]; rfl⟩
          · exact absurd h_53 (by decide)
  refine gq_iload_n (pc := 0) dX11_out_0 rfl ?_
  refine gq_iconst (pc := 1) dX11_out_1 kc_0 ?_
  refine gq_iconst (pc := 2) dX11_out_2 kc_1 ?_
  refine gq_rS3i (pc := 3) dX11_out_3 cs_X11_105 (c_outside _ _ _) ⟨by decide, by decide⟩ (Nat.le_of_ble_eq_true rfl) ?_
  refine gq_if_eq (pc := 6) 15 dX11_out_6 (by decide) (fun h_6 => ?_) (fun h_6 => ?_)
  · refine gq_aload_n (pc := 15) dX11_out_15 rfl ?_
    refine gq_getr (pc := 16) dX11_out_16 fl_X11_64_11 sh_0 rfl ?_
    refine gq_aload_n (pc := 19) dX11_out_19 rfl ?_
    refine gq_getr (pc := 20) dX11_out_20 fl_X11_60_11 sh_0 rfl ?_
    refine gq_rV1v (pc := 23) dX11_out_23 cv_X11_223 sh_35 (c_cp1 (V := V)) ⟨by decide, by decide⟩ rfl rfl (Nat.le_of_ble_eq_true rfl) ?_
    refine gq_iconst (pc := 26) dX11_out_26 kc_1 ?_
    refine gq_istore_n (pc := 27) (l' := [(2, _), (0, _), (1, _)]) dX11_out_27 (by decide) rfl ?_
    refine gq_sub [0, 1, 2] rfl ?_
    exact key 60 0 (by omega) rfl rfl
  · exact absurd (by decide) h_6
set_option maxHeartbeats 1000000 in
theorem c_out_no (h : p_ok g (c + 61) V r) {a : Int32} (ha : ¬ p_in a 0 1 = 0) (hR0 : p_oR r = 60) : ge_N X ge_SH YX11_out 6 [.ref (ge_ad X.1 0), .int a] (ge_k g 25 r x hb) (some (.int (-1000000000 - 2))) (ge_k (ge_up (ge_t1 g r V 60) 75 2 (g 75 2 + 1)) 25 r x hb) := by
  refine gq_ofB (l := [(0, .ref (ge_ad X.1 0)), (1, .int a)]) (by decide) (Nat.le_of_ble_eq_true rfl) rfl ?_
  have key : ∀ (m i : Nat), i + m = 60 → p_fi (p_op r) m i = p_oR r → p_outs r i = 0 → ge_B X ge_SH YX11_out 6 (fun v2 g2 => v2 = (some (.int (-1000000000 - 2))) ∧ g2 = (ge_k (ge_up (ge_t1 g r V 60) 75 2 (g 75 2 + 1)) 25 r x hb)) 28 [(2, .int (nI (i + 1))), (0, .ref (ge_ad X.1 0)), (1, .int a)] [] (ge_k (ge_t1 g r V (i)) 25 r x hb) := by
    intro m
    induction m with
    | zero =>
      intro i hi hR h0
      obtain rfl : i = 60 := hi
      have hR : 60 = p_oR r := hR
      refine gq_iload_n (pc := 28) dX11_out_28 rfl ?_
      refine gq_bipush (pc := 29) dX11_out_29 kb_60 ?_
      refine gq_ic_gt (pc := 31) 74 dX11_out_31 (by decide) (fun h_31 => ?_) (fun h_31 => ?_)
      · refine gq_aload_n (pc := 74) dX11_out_74 rfl ?_
        refine gq_iconst (pc := 75) dX11_out_75 kc_2 ?_
        refine gq_rV1i (pc := 76) dX11_out_76 cv_X11_109 sh_0 (c_error kl_2 (by decide)) ⟨by decide, by decide⟩ rfl rfl (Nat.le_of_ble_eq_true rfl) ?_
        exact gq_iret (pc := 79) rfl dX11_out_79 ⟨rfl, rfl⟩
      · exact absurd (by decide) h_31
    | succ m ih =>
      intro i hi hR h0
      have hh : p_ok g (c + 1) V (p_hrs r i) := p_ok_weak (p_ok_hrs (c := c + (61 - i)) i (by rw [show c + (61 - i) + i = c + 61 by omega]; exact h)) (by omega)
      obtain ⟨hop, ho10⟩ := p_outs_op hh h0
      have e15 : p_xh (p_x0 (g 35)) r V (i + 1) 15 = nI (p_outs r (i + 1)) := by { have := p_xh_15 (g := g) (c := c) (x := p_x0 (g 35)) (V := V) 0 rfl (i + 1) (p_ok_weak h (by omega)); rw [Nat.zero_add] at this; exact this }
      refine gq_iload_n (pc := 28) dX11_out_28 rfl ?_
      refine gq_bipush (pc := 29) dX11_out_29 kb_60 ?_
      refine gq_ic_gt (pc := 31) 74 dX11_out_31 (by decide) (fun h_31 => ?_) (fun h_31 => ?_)
      · exact absurd h_31 (nI_nlt (a := 60) (by omega) (by decide))
      · refine gq_aload_n (pc := 34) dX11_out_34 rfl ?_
        refine gq_getr (pc := 35) dX11_out_35 fl_X11_64_11 sh_0 rfl ?_
        refine gq_iconst (pc := 38) dX11_out_38 kc_1 ?_
        refine gq_rV1v (pc := 39) dX11_out_39 cv_X11_214 sh_35 (c_th1 (c := c) (p_ok_weak h (by omega))) ⟨by decide, by decide⟩ rfl rfl (Nat.le_of_ble_eq_true rfl) ?_
        refine gq_aload_n (pc := 42) dX11_out_42 rfl ?_
        refine gq_getr (pc := 43) dX11_out_43 fl_X11_64_11 sh_0 rfl ?_
        refine kt_get15 (pc := 46) dX11_out_46 fl_X11_211_10 ?_
        rw [e15]
        refine gq_if_le (pc := 49) 68 dX11_out_49 (by decide) (fun h_49 => ?_) (fun h_49 => ?_)
        · have q0 : p_outs r (i + 1) = 0 := by have := (nI_leI (b := 0) (by omega) (by omega)).mp h_49; omega
          rw [p_fi_n (fun z => hop.mp z q0)] at hR
          refine gq_iinc (pc := 68) (l' := [(2, _), (0, _), (1, _)]) dX11_out_68 rfl (ge_inc1 (i + 1)) (by decide) rfl ?_
          refine gq_goto (pc := 71) 28 dX11_out_71 (by decide) ?_
          refine gq_sub [0, 1, 2] rfl ?_
          exact ih (i + 1) (by omega) hR q0
        · have q0 : ¬ p_outs r (i + 1) = 0 := fun z => h_49 (by rw [z]; decide)
          rw [p_fi_y (hop.mpr q0)] at hR
          exact absurd hR (by omega)
  refine gq_iload_n (pc := 0) dX11_out_0 rfl ?_
  refine gq_iconst (pc := 1) dX11_out_1 kc_0 ?_
  refine gq_iconst (pc := 2) dX11_out_2 kc_1 ?_
  refine gq_rS3i (pc := 3) dX11_out_3 cs_X11_105 (c_outside _ _ _) ⟨by decide, by decide⟩ (Nat.le_of_ble_eq_true rfl) ?_
  refine gq_if_eq (pc := 6) 15 dX11_out_6 (by decide) (fun h_6 => ?_) (fun h_6 => ?_)
  · refine gq_aload_n (pc := 15) dX11_out_15 rfl ?_
    refine gq_getr (pc := 16) dX11_out_16 fl_X11_64_11 sh_0 rfl ?_
    refine gq_aload_n (pc := 19) dX11_out_19 rfl ?_
    refine gq_getr (pc := 20) dX11_out_20 fl_X11_60_11 sh_0 rfl ?_
    refine gq_rV1v (pc := 23) dX11_out_23 cv_X11_223 sh_35 (c_cp1 (V := V)) ⟨by decide, by decide⟩ rfl rfl (Nat.le_of_ble_eq_true rfl) ?_
    refine gq_iconst (pc := 26) dX11_out_26 kc_1 ?_
    refine gq_istore_n (pc := 27) (l' := [(2, _), (0, _), (1, _)]) dX11_out_27 (by decide) rfl ?_
    refine gq_sub [0, 1, 2] rfl ?_
    exact key 60 0 (by omega) rfl rfl
  · exact absurd (p_nt_0.mpr ha) h_6
set_option maxHeartbeats 400000 in
theorem c_out_er {a : Int32} (h : p_in a 0 1 = 0) : ge_N X ge_SH YX11_out 6 [.ref (ge_ad X.1 0), .int a] (ge_k g 25 r x hb) (some (.int (-1000000000 - 1))) (ge_k (ge_up g 75 1 (g 75 1 + 1)) 25 r x hb) := by
  refine gq_ofB (l := [(0, .ref (ge_ad X.1 0)), (1, .int a)]) (by decide) (Nat.le_of_ble_eq_true rfl) rfl ?_
  refine gq_iload_n (pc := 0) dX11_out_0 rfl ?_
  refine gq_iconst (pc := 1) dX11_out_1 kc_0 ?_
  refine gq_iconst (pc := 2) dX11_out_2 kc_1 ?_
  refine gq_rS3i (pc := 3) dX11_out_3 cs_X11_105 (c_outside _ _ _) ⟨by decide, by decide⟩ (Nat.le_of_ble_eq_true rfl) ?_
  refine gq_if_eq (pc := 6) 15 dX11_out_6 (by decide) (fun h_6 => ?_) (fun h_6 => ?_)
  · exact absurd h (p_nt_0.mp h_6)
  · refine gq_aload_n (pc := 9) dX11_out_9 rfl ?_
    refine gq_iconst (pc := 10) dX11_out_10 kc_1 ?_
    refine gq_rV1i (pc := 11) dX11_out_11 cv_X11_109 sh_0 (c_error kl_1 (by decide)) ⟨by decide, by decide⟩ rfl rfl (Nat.le_of_ble_eq_true rfl) ?_
    exact gq_iret (pc := 14) rfl dX11_out_14 ⟨rfl, rfl⟩
set_option maxHeartbeats 400000 in
theorem m_out_er {a : Int32} (h : p_in a 0 1 = 0) : ge_N X ge_SH YX12_out 45 [.ref (ge_ad X.1 76), .int a] (ge_m g r f) (some (.int (-1000000001))) (ge_m (ge_up g 81 1 (g 81 1 + 1)) r f) := by
  refine gq_ofB (l := [(0, .ref (ge_ad X.1 76)), (1, .int a)]) (by decide) (Nat.le_of_ble_eq_true rfl) rfl ?_
  refine gq_iload_n (pc := 0) dX12_out_0 rfl ?_
  refine gq_iconst (pc := 1) dX12_out_1 kc_0 ?_
  refine gq_iconst (pc := 2) dX12_out_2 kc_1 ?_
  refine gq_rS3i (pc := 3) dX12_out_3 cs_X12_41 (k_in _ _ _) ⟨by decide, by decide⟩ (Nat.le_of_ble_eq_true rfl) ?_
  refine gq_if_ne (pc := 6) 16 dX12_out_6 (by decide) (fun h_6 => ?_) (fun h_6 => ?_)
  · exact absurd h h_6
  · refine gq_aload_n (pc := 9) dX12_out_9 rfl ?_
    refine gq_ldc (pc := 10) dX12_out_10 kn_X12_53 ?_
    refine gq_rV1i (pc := 12) dX12_out_12 cv_X12_54 sh_76 (k_errs (j := 1) (by decide) (by decide)) ⟨by decide, by decide⟩ rfl rfl (Nat.le_of_ble_eq_true rfl) ?_
    exact gq_iret (pc := 15) rfl dX12_out_15 ⟨rfl, rfl⟩
set_option maxHeartbeats 1000000 in
theorem m_out_ok0 (h : p_ok g (c + 61) V r) (hR0 : p_oR r < 60) : ge_N X ge_SH YX12_out 44 [.ref (ge_ad X.1 76), .int 0] (ge_m g r f) (some (.int (nI (p_oR r + 1)))) (ge_m (ge_row g 79 r) r (p_of f r (p_oR r + 1))) := by
  refine gq_ofB (l := [(0, .ref (ge_ad X.1 76)), (1, .int 0)]) (by decide) (Nat.le_of_ble_eq_true rfl) rfl ?_
  have fin : ∀ i, i < 60 → i = p_oR r → p_op r i = true → ge_B X ge_SH YX12_out 44 (fun v2 g2 => v2 = (some (.int (nI (p_oR r + 1)))) ∧ g2 = (ge_m (ge_row g 79 r) r (p_of f r (p_oR r + 1)))) 58 [(2, .int (nI (i + 1))), (0, .ref (ge_ad X.1 76)), (1, .int 0)] [] (ge_m (ge_row g 79 r) (p_hrs r (i + 1)) (p_of f r (i + 1))) := by
    intro i hi hR hop
    have hh : p_ok g (c + 1) V (p_hrs r i) := p_ok_weak (p_ok_hrs (c := c + (61 - i)) i (by rw [show c + (61 - i) + i = c + 61 by omega]; exact h)) (by omega)
    have hT := p_T_in hh.1
    have hk := p_low1_le _ hT.2
    have hk0 : p_n (p_T (p_hrs r i)) ≠ 0 := fun q => p_op_y hop (by rw [hT.1, q]; rfl)
    have hft := p_T_ft (r := p_hrs r i) hh.2.2.1 hh.2.1
    have key2 : ∀ (m w : Nat), w + m = p_low1 (p_n (p_T (p_hrs r i))) → ge_B X ge_SH YX12_out 44 (fun v2 g2 => v2 = (some (.int (nI (p_oR r + 1)))) ∧ g2 = (ge_m (ge_row g 79 r) r (p_of f r (p_oR r + 1)))) 85 [(3, .int (nI w)), (2, .int (nI (i + 1))), (0, .ref (ge_ad X.1 76)), (1, .int 0)] [] (ge_m (ge_row g 79 r) r (p_of f r (i + 1))) := by
      intro m
      induction m with
      | zero =>
        intro w hw
        have hb := p_low1_1 _ hT.2 hk0
        rw [← hT.1] at hb
        refine gq_aload_n (pc := 85) dX12_out_85 rfl ?_
        refine qw_get (v := p_T (p_hrs r i)) (pc := 86) dX12_out_86 fl_X12_181_12 sh_76 rfl rfl (by decide) ?_
        refine gq_iload_n (pc := 89) dX12_out_89 rfl ?_
        refine gq_ishr (pc := 90) dX12_out_90 ?_
        refine gq_iconst (pc := 91) dX12_out_91 kc_1 ?_
        refine gq_iand (pc := 92) dX12_out_92 ?_
        refine gq_if_ne (pc := 93) 102 dX12_out_93 (by decide) (fun h_93 => ?_) (fun h_93 => ?_)
        · refine gq_iload_n (pc := 102) dX12_out_102 rfl ?_
          refine gq_if_ne (pc := 103) 110 dX12_out_103 (by decide) (fun h_103 => ?_) (fun h_103 => ?_)
          · exact absurd h_103 (by decide)
          · refine gq_iload_n (pc := 106) dX12_out_106 rfl ?_
            refine gq_goto (pc := 107) 111 dX12_out_107 (by decide) ?_
            exact gq_iret (pc := 111) rfl dX12_out_111 ⟨by rw [← hR], by rw [← hR]⟩
        · exact absurd (by rw [show w = p_low1 (p_n (p_T (p_hrs r i))) from hw] at h_93; exact h_93.symm.trans hb) (by decide)
      | succ m ih =>
        intro w hw
        have hb := p_low1_0 _ hT.2 w (by omega)
        rw [← hT.1] at hb
        refine gq_aload_n (pc := 85) dX12_out_85 rfl ?_
        refine qw_get (v := p_T (p_hrs r i)) (pc := 86) dX12_out_86 fl_X12_181_12 sh_76 rfl rfl (by decide) ?_
        refine gq_iload_n (pc := 89) dX12_out_89 rfl ?_
        refine gq_ishr (pc := 90) dX12_out_90 ?_
        refine gq_iconst (pc := 91) dX12_out_91 kc_1 ?_
        refine gq_iand (pc := 92) dX12_out_92 ?_
        refine gq_if_ne (pc := 93) 102 dX12_out_93 (by decide) (fun h_93 => ?_) (fun h_93 => ?_)
        · exact absurd hb h_93
        · refine gq_iinc (pc := 96) (l' := [(3, _), (2, _), (0, _), (1, _)]) dX12_out_96 rfl (ge_inc1 w) (by decide) rfl ?_
          refine gq_goto (pc := 99) 85 dX12_out_99 (by decide) ?_
          refine gq_sub [0, 1, 2, 3] rfl ?_
          exact ih (w + 1) (by omega)
    refine gq_aload_n (pc := 58) dX12_out_58 rfl ?_
    refine gq_aload_n (pc := 59) dX12_out_59 rfl ?_
    refine gq_getr (pc := 60) dX12_out_60 fl_X12_16_12 sh_76 rfl ?_
    refine gq_aload_n (pc := 63) dX12_out_63 rfl ?_
    refine gq_getr (pc := 64) dX12_out_64 fl_X12_7_12 sh_76 rfl ?_
    refine gq_rV2v (pc := 67) dX12_out_67 cv_X12_170 sh_76 (k_move_back sh_79 (by decide) (by decide) (by decide)) ⟨by decide, by decide⟩ rfl rfl (Nat.le_of_ble_eq_true rfl) ?_
    refine gq_tog (g := ge_m (ge_row g 79 r) r (p_of f r (i + 1))) (by rw [ge_row_self]) ?_
    refine gq_iload_n (pc := 70) dX12_out_70 rfl ?_
    refine gq_bipush (pc := 71) dX12_out_71 kb_60 ?_
    refine gq_ic_le (pc := 73) 83 dX12_out_73 (by decide) (fun h_73 => ?_) (fun h_73 => ?_)
    · refine gq_iconst (pc := 83) dX12_out_83 kc_0 ?_
      refine gq_istore_n (pc := 84) (l' := [(3, _), (2, _), (0, _), (1, _)]) dX12_out_84 (by decide) rfl ?_
      refine gq_sub [0, 1, 2, 3] rfl ?_
      exact key2 _ 0 (Nat.zero_add _)
    · exact absurd ((nI_leI (b := 60) (by omega) (by decide)).mpr (by omega)) h_73
  have key : ∀ (m i : Nat), i + m = 60 → p_fi (p_op r) m i = p_oR r → p_of f r i 15 = 0 → ge_B X ge_SH YX12_out 44 (fun v2 g2 => v2 = (some (.int (nI (p_oR r + 1)))) ∧ g2 = (ge_m (ge_row g 79 r) r (p_of f r (p_oR r + 1)))) 35 [(2, .int (nI (i))), (0, .ref (ge_ad X.1 76)), (1, .int 0)] [] (ge_m (ge_row g 79 r) (p_hrs r (i)) (p_of f r (i))) := by
    intro m
    induction m with
    | zero =>
      intro i hi hR h0
      obtain rfl : i = 60 := hi
      have hR : 60 = p_oR r := hR
      exact absurd hR (by omega)
    | succ m ih =>
      intro i hi hR h0
      have hh := p_inv_hrs (r := r) (c := c + (61 - i)) i (by rw [show c + (61 - i) + i = c + 61 by omega]; exact h.1)
      have e15 : p_of f r (i + 1) 15 = p_T (p_hrs r i) := rfl
      by_cases hop : p_op r i = true
      · rw [p_fi_y hop] at hR
        refine gq_iload_n (pc := 35) dX12_out_35 rfl ?_
        refine gq_bipush (pc := 36) dX12_out_36 kb_60 ?_
        refine gq_ic_gt (pc := 38) 58 dX12_out_38 (by decide) (fun h_38 => ?_) (fun h_38 => ?_)
        · exact absurd h_38 (nI_nlt (a := 60) (by omega) (by decide))
        · refine gq_aload_n (pc := 41) dX12_out_41 rfl ?_
          refine qw_get (v := 0) (pc := 42) dX12_out_42 fl_X12_181_12 sh_76 rfl h0 (by decide) ?_
          refine gq_if_ne (pc := 45) 58 dX12_out_45 (by decide) (fun h_45 => ?_) (fun h_45 => ?_)
          · exact absurd rfl h_45
          · refine gq_aload_n (pc := 48) dX12_out_48 rfl ?_
            refine gq_rV0v (pc := 49) dX12_out_49 cv_X12_188 sh_76 (k_oneHour hh) ⟨by decide, by decide⟩ rfl rfl (Nat.le_of_ble_eq_true rfl) ?_
            refine gq_tog (g := (ge_m (ge_row g 79 r) (p_hrs r (i + 1)) (p_of f r (i + 1)))) (by rw [p_of_s]; rfl) ?_
            refine gq_iinc (pc := 52) (l' := [(2, _), (0, _), (1, _)]) dX12_out_52 rfl (ge_inc1 i) (by decide) rfl ?_
            refine gq_goto (pc := 55) 35 dX12_out_55 (by decide) ?_
            refine gq_sub [0, 1, 2] rfl ?_
            refine gq_iload_n (pc := 35) dX12_out_35 rfl ?_
            refine gq_bipush (pc := 36) dX12_out_36 kb_60 ?_
            refine gq_ic_gt (pc := 38) 58 dX12_out_38 (by decide) (fun h_38 => ?_) (fun h_38 => ?_)
            · exact absurd h_38 (nI_nlt (a := 60) (by omega) (by decide))
            · refine gq_aload_n (pc := 41) dX12_out_41 rfl ?_
              refine qw_get (v := p_T (p_hrs r i)) (pc := 42) dX12_out_42 fl_X12_181_12 sh_76 rfl rfl (by decide) ?_
              refine gq_if_ne (pc := 45) 58 dX12_out_45 (by decide) (fun h_45 => ?_) (fun h_45 => ?_)
              · refine gq_sub [0, 1, 2] rfl ?_
                exact fin i (by omega) hR hop
              · exact absurd h_45 (p_op_y hop)
      · rw [p_fi_n hop] at hR
        refine gq_iload_n (pc := 35) dX12_out_35 rfl ?_
        refine gq_bipush (pc := 36) dX12_out_36 kb_60 ?_
        refine gq_ic_gt (pc := 38) 58 dX12_out_38 (by decide) (fun h_38 => ?_) (fun h_38 => ?_)
        · exact absurd h_38 (nI_nlt (a := 60) (by omega) (by decide))
        · refine gq_aload_n (pc := 41) dX12_out_41 rfl ?_
          refine qw_get (v := 0) (pc := 42) dX12_out_42 fl_X12_181_12 sh_76 rfl h0 (by decide) ?_
          refine gq_if_ne (pc := 45) 58 dX12_out_45 (by decide) (fun h_45 => ?_) (fun h_45 => ?_)
          · exact absurd rfl h_45
          · refine gq_aload_n (pc := 48) dX12_out_48 rfl ?_
            refine gq_rV0v (pc := 49) dX12_out_49 cv_X12_188 sh_76 (k_oneHour hh) ⟨by decide, by decide⟩ rfl rfl (Nat.le_of_ble_eq_true rfl) ?_
            refine gq_tog (g := (ge_m (ge_row g 79 r) (p_hrs r (i + 1)) (p_of f r (i + 1)))) (by rw [p_of_s]; rfl) ?_
            refine gq_iinc (pc := 52) (l' := [(2, _), (0, _), (1, _)]) dX12_out_52 rfl (ge_inc1 i) (by decide) rfl ?_
            refine gq_goto (pc := 55) 35 dX12_out_55 (by decide) ?_
            refine gq_sub [0, 1, 2] rfl ?_
            exact ih (i + 1) (by omega) hR (p_op_n hop)
  refine gq_iload_n (pc := 0) dX12_out_0 rfl ?_
  refine gq_iconst (pc := 1) dX12_out_1 kc_0 ?_
  refine gq_iconst (pc := 2) dX12_out_2 kc_1 ?_
  refine gq_rS3i (pc := 3) dX12_out_3 cs_X12_41 (k_in _ _ _) ⟨by decide, by decide⟩ (Nat.le_of_ble_eq_true rfl) ?_
  refine gq_if_ne (pc := 6) 16 dX12_out_6 (by decide) (fun h_6 => ?_) (fun h_6 => ?_)
  · refine gq_aload_n (pc := 16) dX12_out_16 rfl ?_
    refine gq_aload_n (pc := 17) dX12_out_17 rfl ?_
    refine gq_getr (pc := 18) dX12_out_18 fl_X12_7_12 sh_76 rfl ?_
    refine gq_aload_n (pc := 21) dX12_out_21 rfl ?_
    refine gq_getr (pc := 22) dX12_out_22 fl_X12_16_12 sh_76 rfl ?_
    refine gq_rV2v (pc := 25) dX12_out_25 cv_X12_170 sh_76 (k_move_to sh_79 (by decide) (by decide)) ⟨by decide, by decide⟩ rfl rfl (Nat.le_of_ble_eq_true rfl) ?_
    refine gq_iconst (pc := 28) dX12_out_28 kc_0 ?_
    refine gq_istore_n (pc := 29) (l' := [(2, _), (0, _), (1, _)]) dX12_out_29 (by decide) rfl ?_
    refine gq_aload_n (pc := 30) dX12_out_30 rfl ?_
    refine gq_iconst (pc := 31) dX12_out_31 kc_0 ?_
    refine qm_puti (pc := 32) dX12_out_32 fp_X12_181_12 sh_76 rfl ?_
    refine gq_sub [0, 1, 2] rfl ?_
    refine gq_tog (g := (ge_m (ge_row g 79 r) (p_hrs r (0)) (p_of f r (0)))) (by rw [p_of_0]; rfl) ?_
    exact key 60 0 (by omega) rfl rfl
  · exact absurd h_6 (by decide)
set_option maxHeartbeats 1000000 in
theorem m_out_ok1 (h : p_ok g (c + 61) V r) (hR0 : p_oR r < 60) : ge_N X ge_SH YX12_out 44 [.ref (ge_ad X.1 76), .int 1] (ge_m g r f) (some (.int (nI (p_ft (p_hrs r (p_oR r)) V)))) (ge_m (ge_row g 79 r) r (p_of f r (p_oR r + 1))) := by
  refine gq_ofB (l := [(0, .ref (ge_ad X.1 76)), (1, .int 1)]) (by decide) (Nat.le_of_ble_eq_true rfl) rfl ?_
  have fin : ∀ i, i < 60 → i = p_oR r → p_op r i = true → ge_B X ge_SH YX12_out 44 (fun v2 g2 => v2 = (some (.int (nI (p_ft (p_hrs r (p_oR r)) V)))) ∧ g2 = (ge_m (ge_row g 79 r) r (p_of f r (p_oR r + 1)))) 58 [(2, .int (nI (i + 1))), (0, .ref (ge_ad X.1 76)), (1, .int 1)] [] (ge_m (ge_row g 79 r) (p_hrs r (i + 1)) (p_of f r (i + 1))) := by
    intro i hi hR hop
    have hh : p_ok g (c + 1) V (p_hrs r i) := p_ok_weak (p_ok_hrs (c := c + (61 - i)) i (by rw [show c + (61 - i) + i = c + 61 by omega]; exact h)) (by omega)
    have hT := p_T_in hh.1
    have hk := p_low1_le _ hT.2
    have hk0 : p_n (p_T (p_hrs r i)) ≠ 0 := fun q => p_op_y hop (by rw [hT.1, q]; rfl)
    have hft := p_T_ft (r := p_hrs r i) hh.2.2.1 hh.2.1
    have key2 : ∀ (m w : Nat), w + m = p_low1 (p_n (p_T (p_hrs r i))) → ge_B X ge_SH YX12_out 44 (fun v2 g2 => v2 = (some (.int (nI (p_ft (p_hrs r (p_oR r)) V)))) ∧ g2 = (ge_m (ge_row g 79 r) r (p_of f r (p_oR r + 1)))) 85 [(3, .int (nI w)), (2, .int (nI (i + 1))), (0, .ref (ge_ad X.1 76)), (1, .int 1)] [] (ge_m (ge_row g 79 r) r (p_of f r (i + 1))) := by
      intro m
      induction m with
      | zero =>
        intro w hw
        have hb := p_low1_1 _ hT.2 hk0
        rw [← hT.1] at hb
        refine gq_aload_n (pc := 85) dX12_out_85 rfl ?_
        refine qw_get (v := p_T (p_hrs r i)) (pc := 86) dX12_out_86 fl_X12_181_12 sh_76 rfl rfl (by decide) ?_
        refine gq_iload_n (pc := 89) dX12_out_89 rfl ?_
        refine gq_ishr (pc := 90) dX12_out_90 ?_
        refine gq_iconst (pc := 91) dX12_out_91 kc_1 ?_
        refine gq_iand (pc := 92) dX12_out_92 ?_
        refine gq_if_ne (pc := 93) 102 dX12_out_93 (by decide) (fun h_93 => ?_) (fun h_93 => ?_)
        · refine gq_iload_n (pc := 102) dX12_out_102 rfl ?_
          refine gq_if_ne (pc := 103) 110 dX12_out_103 (by decide) (fun h_103 => ?_) (fun h_103 => ?_)
          · refine gq_iload_n (pc := 110) dX12_out_110 rfl ?_
            exact gq_iret (pc := 111) rfl dX12_out_111 ⟨by rw [← hR, ← hft, ← hw]; rfl, by rw [← hR]⟩
          · exact absurd h_103 (by decide)
        · exact absurd (by rw [show w = p_low1 (p_n (p_T (p_hrs r i))) from hw] at h_93; exact h_93.symm.trans hb) (by decide)
      | succ m ih =>
        intro w hw
        have hb := p_low1_0 _ hT.2 w (by omega)
        rw [← hT.1] at hb
        refine gq_aload_n (pc := 85) dX12_out_85 rfl ?_
        refine qw_get (v := p_T (p_hrs r i)) (pc := 86) dX12_out_86 fl_X12_181_12 sh_76 rfl rfl (by decide) ?_
        refine gq_iload_n (pc := 89) dX12_out_89 rfl ?_
        refine gq_ishr (pc := 90) dX12_out_90 ?_
        refine gq_iconst (pc := 91) dX12_out_91 kc_1 ?_
        refine gq_iand (pc := 92) dX12_out_92 ?_
        refine gq_if_ne (pc := 93) 102 dX12_out_93 (by decide) (fun h_93 => ?_) (fun h_93 => ?_)
        · exact absurd hb h_93
        · refine gq_iinc (pc := 96) (l' := [(3, _), (2, _), (0, _), (1, _)]) dX12_out_96 rfl (ge_inc1 w) (by decide) rfl ?_
          refine gq_goto (pc := 99) 85 dX12_out_99 (by decide) ?_
          refine gq_sub [0, 1, 2, 3] rfl ?_
          exact ih (w + 1) (by omega)
    refine gq_aload_n (pc := 58) dX12_out_58 rfl ?_
    refine gq_aload_n (pc := 59) dX12_out_59 rfl ?_
    refine gq_getr (pc := 60) dX12_out_60 fl_X12_16_12 sh_76 rfl ?_
    refine gq_aload_n (pc := 63) dX12_out_63 rfl ?_
    refine gq_getr (pc := 64) dX12_out_64 fl_X12_7_12 sh_76 rfl ?_
    refine gq_rV2v (pc := 67) dX12_out_67 cv_X12_170 sh_76 (k_move_back sh_79 (by decide) (by decide) (by decide)) ⟨by decide, by decide⟩ rfl rfl (Nat.le_of_ble_eq_true rfl) ?_
    refine gq_tog (g := ge_m (ge_row g 79 r) r (p_of f r (i + 1))) (by rw [ge_row_self]) ?_
    refine gq_iload_n (pc := 70) dX12_out_70 rfl ?_
    refine gq_bipush (pc := 71) dX12_out_71 kb_60 ?_
    refine gq_ic_le (pc := 73) 83 dX12_out_73 (by decide) (fun h_73 => ?_) (fun h_73 => ?_)
    · refine gq_iconst (pc := 83) dX12_out_83 kc_0 ?_
      refine gq_istore_n (pc := 84) (l' := [(3, _), (2, _), (0, _), (1, _)]) dX12_out_84 (by decide) rfl ?_
      refine gq_sub [0, 1, 2, 3] rfl ?_
      exact key2 _ 0 (Nat.zero_add _)
    · exact absurd ((nI_leI (b := 60) (by omega) (by decide)).mpr (by omega)) h_73
  have key : ∀ (m i : Nat), i + m = 60 → p_fi (p_op r) m i = p_oR r → p_of f r i 15 = 0 → ge_B X ge_SH YX12_out 44 (fun v2 g2 => v2 = (some (.int (nI (p_ft (p_hrs r (p_oR r)) V)))) ∧ g2 = (ge_m (ge_row g 79 r) r (p_of f r (p_oR r + 1)))) 35 [(2, .int (nI (i))), (0, .ref (ge_ad X.1 76)), (1, .int 1)] [] (ge_m (ge_row g 79 r) (p_hrs r (i)) (p_of f r (i))) := by
    intro m
    induction m with
    | zero =>
      intro i hi hR h0
      obtain rfl : i = 60 := hi
      have hR : 60 = p_oR r := hR
      exact absurd hR (by omega)
    | succ m ih =>
      intro i hi hR h0
      have hh := p_inv_hrs (r := r) (c := c + (61 - i)) i (by rw [show c + (61 - i) + i = c + 61 by omega]; exact h.1)
      have e15 : p_of f r (i + 1) 15 = p_T (p_hrs r i) := rfl
      by_cases hop : p_op r i = true
      · rw [p_fi_y hop] at hR
        refine gq_iload_n (pc := 35) dX12_out_35 rfl ?_
        refine gq_bipush (pc := 36) dX12_out_36 kb_60 ?_
        refine gq_ic_gt (pc := 38) 58 dX12_out_38 (by decide) (fun h_38 => ?_) (fun h_38 => ?_)
        · exact absurd h_38 (nI_nlt (a := 60) (by omega) (by decide))
        · refine gq_aload_n (pc := 41) dX12_out_41 rfl ?_
          refine qw_get (v := 0) (pc := 42) dX12_out_42 fl_X12_181_12 sh_76 rfl h0 (by decide) ?_
          refine gq_if_ne (pc := 45) 58 dX12_out_45 (by decide) (fun h_45 => ?_) (fun h_45 => ?_)
          · exact absurd rfl h_45
          · refine gq_aload_n (pc := 48) dX12_out_48 rfl ?_
            refine gq_rV0v (pc := 49) dX12_out_49 cv_X12_188 sh_76 (k_oneHour hh) ⟨by decide, by decide⟩ rfl rfl (Nat.le_of_ble_eq_true rfl) ?_
            refine gq_tog (g := (ge_m (ge_row g 79 r) (p_hrs r (i + 1)) (p_of f r (i + 1)))) (by rw [p_of_s]; rfl) ?_
            refine gq_iinc (pc := 52) (l' := [(2, _), (0, _), (1, _)]) dX12_out_52 rfl (ge_inc1 i) (by decide) rfl ?_
            refine gq_goto (pc := 55) 35 dX12_out_55 (by decide) ?_
            refine gq_sub [0, 1, 2] rfl ?_
            refine gq_iload_n (pc := 35) dX12_out_35 rfl ?_
            refine gq_bipush (pc := 36) dX12_out_36 kb_60 ?_
            refine gq_ic_gt (pc := 38) 58 dX12_out_38 (by decide) (fun h_38 => ?_) (fun h_38 => ?_)
            · exact absurd h_38 (nI_nlt (a := 60) (by omega) (by decide))
            · refine gq_aload_n (pc := 41) dX12_out_41 rfl ?_
              refine qw_get (v := p_T (p_hrs r i)) (pc := 42) dX12_out_42 fl_X12_181_12 sh_76 rfl rfl (by decide) ?_
              refine gq_if_ne (pc := 45) 58 dX12_out_45 (by decide) (fun h_45 => ?_) (fun h_45 => ?_)
              · refine gq_sub [0, 1, 2] rfl ?_
                exact fin i (by omega) hR hop
              · exact absurd h_45 (p_op_y hop)
      · rw [p_fi_n hop] at hR
        refine gq_iload_n (pc := 35) dX12_out_35 rfl ?_
        refine gq_bipush (pc := 36) dX12_out_36 kb_60 ?_
        refine gq_ic_gt (pc := 38) 58 dX12_out_38 (by decide) (fun h_38 => ?_) (fun h_38 => ?_)
        · exact absurd h_38 (nI_nlt (a := 60) (by omega) (by decide))
        · refine gq_aload_n (pc := 41) dX12_out_41 rfl ?_
          refine qw_get (v := 0) (pc := 42) dX12_out_42 fl_X12_181_12 sh_76 rfl h0 (by decide) ?_
          refine gq_if_ne (pc := 45) 58 dX12_out_45 (by decide) (fun h_45 => ?_) (fun h_45 => ?_)
          · exact absurd rfl h_45
          · refine gq_aload_n (pc := 48) dX12_out_48 rfl ?_
            refine gq_rV0v (pc := 49) dX12_out_49 cv_X12_188 sh_76 (k_oneHour hh) ⟨by decide, by decide⟩ rfl rfl (Nat.le_of_ble_eq_true rfl) ?_
            refine gq_tog (g := (ge_m (ge_row g 79 r) (p_hrs r (i + 1)) (p_of f r (i + 1)))) (by rw [p_of_s]; rfl) ?_
            refine gq_iinc (pc := 52) (l' := [(2, _), (0, _), (1, _)]) dX12_out_52 rfl (ge_inc1 i) (by decide) rfl ?_
            refine gq_goto (pc := 55) 35 dX12_out_55 (by decide) ?_
            refine gq_sub [0, 1, 2] rfl ?_
            exact ih (i + 1) (by omega) hR (p_op_n hop)
  refine gq_iload_n (pc := 0) dX12_out_0 rfl ?_
  refine gq_iconst (pc := 1) dX12_out_1 kc_0 ?_
  refine gq_iconst (pc := 2) dX12_out_2 kc_1 ?_
  refine gq_rS3i (pc := 3) dX12_out_3 cs_X12_41 (k_in _ _ _) ⟨by decide, by decide⟩ (Nat.le_of_ble_eq_true rfl) ?_
  refine gq_if_ne (pc := 6) 16 dX12_out_6 (by decide) (fun h_6 => ?_) (fun h_6 => ?_)
  · refine gq_aload_n (pc := 16) dX12_out_16 rfl ?_
    refine gq_aload_n (pc := 17) dX12_out_17 rfl ?_
    refine gq_getr (pc := 18) dX12_out_18 fl_X12_7_12 sh_76 rfl ?_
    refine gq_aload_n (pc := 21) dX12_out_21 rfl ?_
    refine gq_getr (pc := 22) dX12_out_22 fl_X12_16_12 sh_76 rfl ?_
    refine gq_rV2v (pc := 25) dX12_out_25 cv_X12_170 sh_76 (k_move_to sh_79 (by decide) (by decide)) ⟨by decide, by decide⟩ rfl rfl (Nat.le_of_ble_eq_true rfl) ?_
    refine gq_iconst (pc := 28) dX12_out_28 kc_0 ?_
    refine gq_istore_n (pc := 29) (l' := [(2, _), (0, _), (1, _)]) dX12_out_29 (by decide) rfl ?_
    refine gq_aload_n (pc := 30) dX12_out_30 rfl ?_
    refine gq_iconst (pc := 31) dX12_out_31 kc_0 ?_
    refine qm_puti (pc := 32) dX12_out_32 fp_X12_181_12 sh_76 rfl ?_
    refine gq_sub [0, 1, 2] rfl ?_
    refine gq_tog (g := (ge_m (ge_row g 79 r) (p_hrs r (0)) (p_of f r (0)))) (by rw [p_of_0]; rfl) ?_
    exact key 60 0 (by omega) rfl rfl
  · exact absurd h_6 (by decide)
set_option maxHeartbeats 1000000 in
theorem m_out_no (h : p_ok g (c + 61) V r) {a : Int32} (ha : ¬ p_in a 0 1 = 0) (hR0 : p_oR r = 60) : ge_N X ge_SH YX12_out 44 [.ref (ge_ad X.1 76), .int a] (ge_m g r f) (some (.int (-1000000002))) (ge_m (ge_up (ge_row g 79 r) 81 2 (g 81 2 + 1)) r (p_of f r 61)) := by
  refine gq_ofB (l := [(0, .ref (ge_ad X.1 76)), (1, .int a)]) (by decide) (Nat.le_of_ble_eq_true rfl) rfl ?_
  have fin : ge_B X ge_SH YX12_out 44 (fun v2 g2 => v2 = (some (.int (-1000000002))) ∧ g2 = (ge_m (ge_up (ge_row g 79 r) 81 2 (g 81 2 + 1)) r (p_of f r 61))) 58 [(2, .int (nI (61))), (0, .ref (ge_ad X.1 76)), (1, .int a)] [] (ge_m (ge_row g 79 r) (p_hrs r (61)) (p_of f r (61))) := by
    refine gq_aload_n (pc := 58) dX12_out_58 rfl ?_
    refine gq_aload_n (pc := 59) dX12_out_59 rfl ?_
    refine gq_getr (pc := 60) dX12_out_60 fl_X12_16_12 sh_76 rfl ?_
    refine gq_aload_n (pc := 63) dX12_out_63 rfl ?_
    refine gq_getr (pc := 64) dX12_out_64 fl_X12_7_12 sh_76 rfl ?_
    refine gq_rV2v (pc := 67) dX12_out_67 cv_X12_170 sh_76 (k_move_back sh_79 (by decide) (by decide) (by decide)) ⟨by decide, by decide⟩ rfl rfl (Nat.le_of_ble_eq_true rfl) ?_
    refine gq_tog (g := ge_m (ge_row g 79 r) r (p_of f r 61)) (by rw [ge_row_self]) ?_
    refine gq_iload_n (pc := 70) dX12_out_70 rfl ?_
    refine gq_bipush (pc := 71) dX12_out_71 kb_60 ?_
    refine gq_ic_le (pc := 73) 83 dX12_out_73 (by decide) (fun h_73 => ?_) (fun h_73 => ?_)
    · exact absurd h_73 (by decide)
    · refine gq_aload_n (pc := 76) dX12_out_76 rfl ?_
      refine gq_ldc (pc := 77) dX12_out_77 kn_X12_202 ?_
      refine gq_rV1i (pc := 79) dX12_out_79 cv_X12_54 sh_76 (k_errs (j := 2) (by decide) (by decide)) ⟨by decide, by decide⟩ rfl rfl (Nat.le_of_ble_eq_true rfl) ?_
      exact gq_iret (pc := 82) rfl dX12_out_82 ⟨rfl, rfl⟩
  have key : ∀ (m i : Nat), i + m = 60 → p_fi (p_op r) m i = p_oR r → p_of f r i 15 = 0 → ge_B X ge_SH YX12_out 44 (fun v2 g2 => v2 = (some (.int (-1000000002))) ∧ g2 = (ge_m (ge_up (ge_row g 79 r) 81 2 (g 81 2 + 1)) r (p_of f r 61))) 35 [(2, .int (nI (i))), (0, .ref (ge_ad X.1 76)), (1, .int a)] [] (ge_m (ge_row g 79 r) (p_hrs r (i)) (p_of f r (i))) := by
    intro m
    induction m with
    | zero =>
      intro i hi hR h0
      obtain rfl : i = 60 := hi
      have hR : 60 = p_oR r := hR
      have hh := p_inv_hrs (r := r) (c := c + 1) 60 h.1
      refine gq_iload_n (pc := 35) dX12_out_35 rfl ?_
      refine gq_bipush (pc := 36) dX12_out_36 kb_60 ?_
      refine gq_ic_gt (pc := 38) 58 dX12_out_38 (by decide) (fun h_38 => ?_) (fun h_38 => ?_)
      · exact absurd h_38 (by decide)
      · refine gq_aload_n (pc := 41) dX12_out_41 rfl ?_
        refine qw_get (v := 0) (pc := 42) dX12_out_42 fl_X12_181_12 sh_76 rfl h0 (by decide) ?_
        refine gq_if_ne (pc := 45) 58 dX12_out_45 (by decide) (fun h_45 => ?_) (fun h_45 => ?_)
        · exact absurd rfl h_45
        · refine gq_aload_n (pc := 48) dX12_out_48 rfl ?_
          refine gq_rV0v (pc := 49) dX12_out_49 cv_X12_188 sh_76 (k_oneHour hh) ⟨by decide, by decide⟩ rfl rfl (Nat.le_of_ble_eq_true rfl) ?_
          refine gq_tog (g := (ge_m (ge_row g 79 r) (p_hrs r (61)) (p_of f r (61)))) (by rw [p_of_s]; rfl) ?_
          refine gq_iinc (pc := 52) (l' := [(2, _), (0, _), (1, _)]) dX12_out_52 rfl (ge_inc1 60) (by decide) rfl ?_
          refine gq_goto (pc := 55) 35 dX12_out_55 (by decide) ?_
          refine gq_sub [0, 1, 2] rfl ?_
          refine gq_iload_n (pc := 35) dX12_out_35 rfl ?_
          refine gq_bipush (pc := 36) dX12_out_36 kb_60 ?_
          refine gq_ic_gt (pc := 38) 58 dX12_out_38 (by decide) (fun h_38 => ?_) (fun h_38 => ?_)
          · refine gq_sub [0, 1, 2] rfl ?_
            exact fin
          · exact absurd (by decide) h_38
    | succ m ih =>
      intro i hi hR h0
      have hh := p_inv_hrs (r := r) (c := c + (61 - i)) i (by rw [show c + (61 - i) + i = c + 61 by omega]; exact h.1)
      have e15 : p_of f r (i + 1) 15 = p_T (p_hrs r i) := rfl
      by_cases hop : p_op r i = true
      · rw [p_fi_y hop] at hR
        exact absurd hR (by omega)
      · rw [p_fi_n hop] at hR
        refine gq_iload_n (pc := 35) dX12_out_35 rfl ?_
        refine gq_bipush (pc := 36) dX12_out_36 kb_60 ?_
        refine gq_ic_gt (pc := 38) 58 dX12_out_38 (by decide) (fun h_38 => ?_) (fun h_38 => ?_)
        · exact absurd h_38 (nI_nlt (a := 60) (by omega) (by decide))
        · refine gq_aload_n (pc := 41) dX12_out_41 rfl ?_
          refine qw_get (v := 0) (pc := 42) dX12_out_42 fl_X12_181_12 sh_76 rfl h0 (by decide) ?_
          refine gq_if_ne (pc := 45) 58 dX12_out_45 (by decide) (fun h_45 => ?_) (fun h_45 => ?_)
          · exact absurd rfl h_45
          · refine gq_aload_n (pc := 48) dX12_out_48 rfl ?_
            refine gq_rV0v (pc := 49) dX12_out_49 cv_X12_188 sh_76 (k_oneHour hh) ⟨by decide, by decide⟩ rfl rfl (Nat.le_of_ble_eq_true rfl) ?_
            refine gq_tog (g := (ge_m (ge_row g 79 r) (p_hrs r (i + 1)) (p_of f r (i + 1)))) (by rw [p_of_s]; rfl) ?_
            refine gq_iinc (pc := 52) (l' := [(2, _), (0, _), (1, _)]) dX12_out_52 rfl (ge_inc1 i) (by decide) rfl ?_
            refine gq_goto (pc := 55) 35 dX12_out_55 (by decide) ?_
            refine gq_sub [0, 1, 2] rfl ?_
            exact ih (i + 1) (by omega) hR (p_op_n hop)
  refine gq_iload_n (pc := 0) dX12_out_0 rfl ?_
  refine gq_iconst (pc := 1) dX12_out_1 kc_0 ?_
  refine gq_iconst (pc := 2) dX12_out_2 kc_1 ?_
  refine gq_rS3i (pc := 3) dX12_out_3 cs_X12_41 (k_in _ _ _) ⟨by decide, by decide⟩ (Nat.le_of_ble_eq_true rfl) ?_
  refine gq_if_ne (pc := 6) 16 dX12_out_6 (by decide) (fun h_6 => ?_) (fun h_6 => ?_)
  · refine gq_aload_n (pc := 16) dX12_out_16 rfl ?_
    refine gq_aload_n (pc := 17) dX12_out_17 rfl ?_
    refine gq_getr (pc := 18) dX12_out_18 fl_X12_7_12 sh_76 rfl ?_
    refine gq_aload_n (pc := 21) dX12_out_21 rfl ?_
    refine gq_getr (pc := 22) dX12_out_22 fl_X12_16_12 sh_76 rfl ?_
    refine gq_rV2v (pc := 25) dX12_out_25 cv_X12_170 sh_76 (k_move_to sh_79 (by decide) (by decide)) ⟨by decide, by decide⟩ rfl rfl (Nat.le_of_ble_eq_true rfl) ?_
    refine gq_iconst (pc := 28) dX12_out_28 kc_0 ?_
    refine gq_istore_n (pc := 29) (l' := [(2, _), (0, _), (1, _)]) dX12_out_29 (by decide) rfl ?_
    refine gq_aload_n (pc := 30) dX12_out_30 rfl ?_
    refine gq_iconst (pc := 31) dX12_out_31 kc_0 ?_
    refine qm_puti (pc := 32) dX12_out_32 fp_X12_181_12 sh_76 rfl ?_
    refine gq_sub [0, 1, 2] rfl ?_
    refine gq_tog (g := (ge_m (ge_row g 79 r) (p_hrs r (0)) (p_of f r (0)))) (by rw [p_of_0]; rfl) ?_
    exact key 60 0 (by omega) rfl rfl
  · exact absurd h_6 ha
end T7
