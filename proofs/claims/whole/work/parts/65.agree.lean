section T10
variable {X : ge_X} {g : ge_G} {r r' x hb r2 x2 hb2 f : Nat → Int32} {c V : Nat}
theorem p_mc_c {hb hb2 : Nat → Int32} {t : Int32} : ∀ w, (∀ k, k < w → hb k = hb2 k) → p_mc hb t w = p_mc hb2 t w := by
  intro w
  induction w with
  | zero => intro _; rfl
  | succ w ih =>
    intro h
    unfold p_mc
    rw [ih (fun k hk => h k (by omega)), h w (by omega)]
theorem p_mm_c {hb hb2 : Nat → Int32} (h : ∀ k, k < V → hb k = hb2 k) : ∀ t, p_mm hb V t = p_mm hb2 V t := by
  intro t
  induction t with
  | zero => rfl
  | succ t ih => unfold p_mm; rw [ih, p_mc_c V h]
/-- how many agree in hour i -/
def p_ag (r : Nat → Int32) (V i : Nat) : Nat := p_mm (p_hf (p_hrs r i)) V 10
theorem p_ag_hh {hb : Nat → Int32} {i : Nat} (h : p_ok g c V (p_hrs r i)) : p_mm (p_hh hb r V (i + 1)) V 10 = p_ag r V i := p_mm_c (fun k hk => p_hh_at h hk) 10
def p_af (F : Nat → Nat) (b : Int32) : Nat → Int32 × Nat
  | 0 => (b, 0)
  | n + 1 => if (p_af F b n).2 < F n then (nI n, F n) else p_af F b n
theorem p_af_y {F : Nat → Nat} {b : Int32} {n : Nat} (h : (p_af F b n).2 < F n) : p_af F b (n + 1) = (nI n, F n) := if_pos h
theorem p_af_n {F : Nat → Nat} {b : Int32} {n : Nat} (h : ¬ (p_af F b n).2 < F n) : p_af F b (n + 1) = p_af F b n := if_neg h
theorem p_af_le {F : Nat → Nat} {b : Int32} (hF : ∀ i, F i ≤ 6) : ∀ n, (p_af F b n).2 ≤ 6 := by
  intro n
  induction n with
  | zero => exact Nat.zero_le _
  | succ n ih => unfold p_af; split; exact hF n; exact ih
theorem p_af_i (F : Nat → Nat) (b b' : Int32) : ∀ n, (p_af F b n).2 = (p_af F b' n).2 ∧ (0 < (p_af F b n).2 → (p_af F b n).1 = (p_af F b' n).1) := by
  intro n
  induction n with
  | zero => exact ⟨rfl, fun z => absurd z (Nat.lt_irrefl 0)⟩
  | succ n ih =>
    obtain ⟨a, d⟩ := ih
    by_cases h : (p_af F b n).2 < F n
    · rw [p_af_y h, p_af_y (by rw [← a]; exact h)]; exact ⟨rfl, fun _ => rfl⟩
    · rw [p_af_n h, p_af_n (by rw [← a]; exact h)]; exact ⟨a, d⟩
theorem p_ag_le (r : Nat → Int32) (hV : V ≤ 6) (i : Nat) : p_ag r V i ≤ 6 := Nat.le_trans (p_mm_le _ _ _) hV
def p_gf (f r : Nat → Int32) : Nat → Nat → Int32
  | 0 => f
  | n + 1 => p_tb f (p_T (p_hrs r n)) (p_Bo (p_hrs r n))
theorem p_gf_s (n : Nat) : p_tb (p_gf f r n) (p_T (p_hrs r n)) (p_Bo (p_hrs r n)) = p_gf f r (n + 1) := by
  cases n with
  | zero => rfl
  | succ n => show p_tb (p_tb f _ _) _ _ = p_tb f _ _; rw [p_tb_tb]
theorem p_gf_o {n j : Nat} (h : j ≠ 15 ∧ j ≠ 16) : p_gf f r n j = f j := by
  cases n with
  | zero => rfl
  | succ n => exact p_tb_o h
set_option maxHeartbeats 1000000 in
theorem m_agreeing (h : p_ok g c V r) : ge_N X ge_SH YX12_agreeing 43 [.ref (ge_ad X.1 76)] (ge_m g r f) (some (.int (nI (p_mm (p_hf r) V 10)))) (ge_m g r f) := by
  have hV := h.2.2.1
  have e3 := h.2.1
  have hI := h.1
  refine gq_ofB (l := [(0, .ref (ge_ad X.1 76))]) (by decide) (Nat.le_of_ble_eq_true rfl) rfl ?_
  have key : ∀ (m t : Nat), t + m = 10 → ge_B X ge_SH YX12_agreeing 43 (fun v2 g2 => v2 = (some (.int (nI (p_mm (p_hf r) V 10)))) ∧ g2 = (ge_m g r f)) 4 [(2, .int (nI t)), (1, .int (nI (p_mm (p_hf r) V t))), (0, .ref (ge_ad X.1 76))] [] (ge_m g r f) := by
    intro m
    induction m with
    | zero =>
      intro t ht
      obtain rfl : t = 10 := ht
      refine gq_iload_n (pc := 4) dX12_agreeing_4 rfl ?_
      refine gq_bipush (pc := 5) dX12_agreeing_5 kb_10 ?_
      refine gq_ic_ge (pc := 7) 80 dX12_agreeing_7 (by decide) (fun h_7 => ?_) (fun h_7 => ?_)
      · refine gq_iload_n (pc := 80) dX12_agreeing_80 rfl ?_
        exact gq_iret (pc := 81) rfl dX12_agreeing_81 ⟨rfl, rfl⟩
      · exact absurd (by decide) h_7
    | succ m ih =>
      intro t ht
      have inner : ∀ (m2 w : Nat), w + m2 = V → ge_B X ge_SH YX12_agreeing 43 (fun v2 g2 => v2 = (some (.int (nI (p_mm (p_hf r) V 10)))) ∧ g2 = (ge_m g r f)) 15 [(4, .int (nI w)), (3, .int (nI (p_mc (p_hf r) (nI t) w))), (2, .int (nI t)), (1, .int (nI (p_mm (p_hf r) V t))), (0, .ref (ge_ad X.1 76))] [] (ge_m g r f) := by
        intro m2
        induction m2 with
        | zero =>
          intro w hw
          obtain rfl : w = V := hw
          have q1 := p_mm_le (p_hf r) w t
          have q2 := p_mc_le (p_hf r) (nI t) w
          have hm : p_mm (p_hf r) w (t + 1) = max (p_mm (p_hf r) w t) (p_mc (p_hf r) (nI t) w) := rfl
          refine gq_iload (pc := 15) dX12_agreeing_15 rfl ?_
          refine gq_aload_n (pc := 17) dX12_agreeing_17 rfl ?_
          refine gq_getr (pc := 18) dX12_agreeing_18 fl_X12_7_12 sh_76 rfl ?_
          refine gq_iconst (pc := 21) dX12_agreeing_21 kc_3 ?_
          refine qm_ald (pc := 22) dX12_agreeing_22 kl_3 (by first | decide | omega) ?_
          rw [e3]
          refine gq_ic_ge (pc := 23) 63 dX12_agreeing_23 (by decide) (fun h_23 => ?_) (fun h_23 => ?_)
          · refine gq_iload_n (pc := 63) dX12_agreeing_63 rfl ?_
            refine gq_iload_n (pc := 64) dX12_agreeing_64 rfl ?_
            refine gq_ic_le (pc := 65) 72 dX12_agreeing_65 (by decide) (fun h_65 => ?_) (fun h_65 => ?_)
            · refine gq_iload_n (pc := 72) dX12_agreeing_72 rfl ?_
              refine gq_istore_n (pc := 73) (l' := [(1, _), (4, _), (3, _), (2, _), (0, _)]) dX12_agreeing_73 (by decide) rfl ?_
              refine gq_iinc (pc := 74) (l' := [(2, _), (1, _), (4, _), (3, _), (0, _)]) dX12_agreeing_74 rfl (ge_inc1 t) (by decide) rfl ?_
              refine gq_goto (pc := 77) 4 dX12_agreeing_77 (by decide) ?_
              have q := ih (t + 1) (by omega)
              rw [hm, Nat.max_eq_left (by have := (nI_leI (by omega) (by omega)).mp h_65; omega)] at q
              refine gq_sub [0, 1, 4] rfl ?_
              exact q
            · refine gq_iload_n (pc := 68) dX12_agreeing_68 rfl ?_
              refine gq_goto (pc := 69) 73 dX12_agreeing_69 (by decide) ?_
              refine gq_istore_n (pc := 73) (l' := [(1, _), (4, _), (3, _), (2, _), (0, _)]) dX12_agreeing_73 (by decide) rfl ?_
              refine gq_iinc (pc := 74) (l' := [(2, _), (1, _), (4, _), (3, _), (0, _)]) dX12_agreeing_74 rfl (ge_inc1 t) (by decide) rfl ?_
              refine gq_goto (pc := 77) 4 dX12_agreeing_77 (by decide) ?_
              have q := ih (t + 1) (by omega)
              rw [hm, Nat.max_eq_right (by have := (nI_ltI (by omega) (by omega)).mp (Int32.not_le.mp h_65); omega)] at q
              refine gq_sub [0, 1, 4] rfl ?_
              exact q
          · exact absurd (Int32.le_refl _) h_23
        | succ m2 ih2 =>
          intro w hw
          have hl : nI w < r 3 := by rw [e3]; exact (nI_ltI (by omega) (by omega)).mpr (by omega)
          have h0 := p_inv_eo hI hl (by omega) (show 0 < 2 by omega)
          have h1 := p_inv_eo hI hl (by omega) (show 1 < 2 by omega)
          have q2 := p_mc_le (p_hf r) (nI t) w
          refine gq_iload (pc := 15) dX12_agreeing_15 rfl ?_
          refine gq_aload_n (pc := 17) dX12_agreeing_17 rfl ?_
          refine gq_getr (pc := 18) dX12_agreeing_18 fl_X12_7_12 sh_76 rfl ?_
          refine gq_iconst (pc := 21) dX12_agreeing_21 kc_3 ?_
          refine qm_ald (pc := 22) dX12_agreeing_22 kl_3 (by first | decide | omega) ?_
          rw [e3]
          refine gq_ic_ge (pc := 23) 63 dX12_agreeing_23 (by decide) (fun h_23 => ?_) (fun h_23 => ?_)
          · exact absurd ((nI_leI (a := V) (b := w) (by omega) (by omega)).mp h_23) (by omega)
          · refine gq_aload_n (pc := 26) dX12_agreeing_26 rfl ?_
            refine gq_iload (pc := 27) dX12_agreeing_27 rfl ?_
            refine gq_rV1i (pc := 29) dX12_agreeing_29 cv_X12_87 sh_76 (k_heeded hI rfl (by omega) h0 h1) ⟨by decide, by decide⟩ rfl rfl (Nat.le_of_ble_eq_true rfl) ?_
            refine gq_istore (pc := 32) (l' := [(5, _), (4, _), (3, _), (2, _), (1, _), (0, _)]) dX12_agreeing_32 (by decide) rfl ?_
            refine gq_iload_n (pc := 34) dX12_agreeing_34 rfl ?_
            refine gq_iload (pc := 35) dX12_agreeing_35 rfl ?_
            refine gq_if_lt (pc := 37) 54 dX12_agreeing_37 (by decide) (fun h_37 => ?_) (fun h_37 => ?_)
            · have hq : ¬ p_hf r w = nI t := by unfold p_hf; rw [if_pos h_37]; intro z; have z2 := (nI_eq (a := 10) (b := t) (by omega) (by omega)).mp z; omega
              refine gq_iconst (pc := 54) dX12_agreeing_54 kc_0 ?_
              refine gq_iadd (pc := 55) dX12_agreeing_55 ?_
              refine gq_istore_n (pc := 56) (l' := [(3, _), (5, _), (4, _), (2, _), (1, _), (0, _)]) dX12_agreeing_56 (by decide) rfl ?_
              refine gq_iinc (pc := 57) (l' := [(4, _), (3, _), (5, _), (2, _), (1, _), (0, _)]) dX12_agreeing_57 rfl (ge_inc1 w) (by decide) rfl ?_
              refine gq_goto (pc := 60) 15 dX12_agreeing_60 (by decide) ?_
              have q := ih2 (w + 1) (by omega)
              rw [show p_mc (p_hf r) (nI t) (w + 1) = p_mc (p_hf r) (nI t) w from if_neg hq] at q
              refine gq_sub [0, 1, 3, 4, 5] rfl ?_
              rw [Int32.add_zero]
              exact q
            · refine gq_aload_n (pc := 40) dX12_agreeing_40 rfl ?_
              refine gq_iload (pc := 41) dX12_agreeing_41 rfl ?_
              refine gq_rV1i (pc := 43) dX12_agreeing_43 cv_X12_75 sh_76 (k_shows hI (p_eo_n (p_heeded_eo h0 h1) h_37).1 (p_eo_n (p_heeded_eo h0 h1) h_37).2) ⟨by decide, by decide⟩ rfl rfl (Nat.le_of_ble_eq_true rfl) ?_
              refine gq_iload_n (pc := 46) dX12_agreeing_46 rfl ?_
              refine gq_ic_ne (pc := 47) 54 dX12_agreeing_47 (by decide) (fun h_47 => ?_) (fun h_47 => ?_)
              · have hq : ¬ p_hf r w = nI t := by unfold p_hf; rw [if_neg h_37]; exact h_47
                refine gq_iconst (pc := 54) dX12_agreeing_54 kc_0 ?_
                refine gq_iadd (pc := 55) dX12_agreeing_55 ?_
                refine gq_istore_n (pc := 56) (l' := [(3, _), (5, _), (4, _), (2, _), (1, _), (0, _)]) dX12_agreeing_56 (by decide) rfl ?_
                refine gq_iinc (pc := 57) (l' := [(4, _), (3, _), (5, _), (2, _), (1, _), (0, _)]) dX12_agreeing_57 rfl (ge_inc1 w) (by decide) rfl ?_
                refine gq_goto (pc := 60) 15 dX12_agreeing_60 (by decide) ?_
                have q := ih2 (w + 1) (by omega)
                rw [show p_mc (p_hf r) (nI t) (w + 1) = p_mc (p_hf r) (nI t) w from if_neg hq] at q
                refine gq_sub [0, 1, 3, 4, 5] rfl ?_
                rw [Int32.add_zero]
                exact q
              · have hq : p_hf r w = nI t := by unfold p_hf; rw [if_neg h_37]; first | exact h_47 | exact Decidable.not_not.mp h_47
                refine gq_iconst (pc := 50) dX12_agreeing_50 kc_1 ?_
                refine gq_goto (pc := 51) 55 dX12_agreeing_51 (by decide) ?_
                refine gq_iadd (pc := 55) dX12_agreeing_55 ?_
                refine gq_istore_n (pc := 56) (l' := [(3, _), (5, _), (4, _), (2, _), (1, _), (0, _)]) dX12_agreeing_56 (by decide) rfl ?_
                refine gq_iinc (pc := 57) (l' := [(4, _), (3, _), (5, _), (2, _), (1, _), (0, _)]) dX12_agreeing_57 rfl (ge_inc1 w) (by decide) rfl ?_
                refine gq_goto (pc := 60) 15 dX12_agreeing_60 (by decide) ?_
                have q := ih2 (w + 1) (by omega)
                rw [show p_mc (p_hf r) (nI t) (w + 1) = p_mc (p_hf r) (nI t) w + 1 from if_pos hq, show nI (p_mc (p_hf r) (nI t) w + 1) = nI (p_mc (p_hf r) (nI t) w) + 1 from (nI_1 _).symm] at q
                refine gq_sub [0, 1, 3, 4, 5] rfl ?_
                exact q
      refine gq_iload_n (pc := 4) dX12_agreeing_4 rfl ?_
      refine gq_bipush (pc := 5) dX12_agreeing_5 kb_10 ?_
      refine gq_ic_ge (pc := 7) 80 dX12_agreeing_7 (by decide) (fun h_7 => ?_) (fun h_7 => ?_)
      · exact absurd ((nI_leI (a := 10) (b := t) (by omega) (by omega)).mp h_7) (by omega)
      · refine gq_iconst (pc := 10) dX12_agreeing_10 kc_0 ?_
        refine gq_istore_n (pc := 11) (l' := [(3, _), (2, _), (1, _), (0, _)]) dX12_agreeing_11 (by decide) rfl ?_
        refine gq_iconst (pc := 12) dX12_agreeing_12 kc_0 ?_
        refine gq_istore (pc := 13) (l' := [(4, _), (3, _), (2, _), (1, _), (0, _)]) dX12_agreeing_13 (by decide) rfl ?_
        refine gq_sub [0, 1, 2, 3, 4] rfl ?_
        exact inner V 0 (by omega)
  refine gq_iconst (pc := 0) dX12_agreeing_0 kc_0 ?_
  refine gq_istore_n (pc := 1) (l' := [(1, _), (0, _)]) dX12_agreeing_1 (by decide) rfl ?_
  refine gq_iconst (pc := 2) dX12_agreeing_2 kc_0 ?_
  refine gq_istore_n (pc := 3) (l' := [(2, _), (1, _), (0, _)]) dX12_agreeing_3 (by decide) rfl ?_
  refine gq_sub [0, 1, 2] rfl ?_
  exact key 10 0 (by omega)
set_option maxHeartbeats 1000000 in
theorem c_agree_ok0 (h : p_ok g (c + 12) V r) (h2 : ¬ (p_af (p_ag r V) (-1) (12)).2 = 0) : ge_N X ge_SH YX11_agree 6 [.ref (ge_ad X.1 0), .int 0] (ge_k g 25 r x hb) (some (.int (p_af (p_ag r V) (-1) (12)).1)) (ge_k (ge_t1 g r V (12)) 25 r x hb) := by
  have hV := h.2.2.1
  have hF := p_af_le (b := (-1)) (p_ag_le r hV)
  refine gq_ofB (l := [(0, .ref (ge_ad X.1 0)), (1, .int 0)]) (by decide) (Nat.le_of_ble_eq_true rfl) rfl ?_
  have key : ∀ (m i : Nat), i + m = 12 → ge_B X ge_SH YX11_agree 6 (fun v2 g2 => v2 = (some (.int (p_af (p_ag r V) (-1) (12)).1)) ∧ g2 = (ge_k (ge_t1 g r V (12)) 25 r x hb)) 33 [(4, .int (nI i)), (3, .int (nI (p_af (p_ag r V) (-1) (i)).2)), (2, .int (p_af (p_ag r V) (-1) (i)).1), (0, .ref (ge_ad X.1 0)), (1, .int 0)] [] (ge_k (ge_t1 g r V (i)) 25 r x hb) := by
    intro m
    induction m with
    | zero =>
      intro i hi
      obtain rfl : i = 12 := hi
      have hf := hF 12
      refine gq_iload (pc := 33) dX11_agree_33 rfl ?_
      refine gq_bipush (pc := 35) dX11_agree_35 kb_12 ?_
      refine gq_ic_ge (pc := 37) 75 dX11_agree_37 (by decide) (fun h_37 => ?_) (fun h_37 => ?_)
      · refine gq_iload_n (pc := 75) dX11_agree_75 rfl ?_
        refine gq_if_ne (pc := 76) 85 dX11_agree_76 (by decide) (fun h_76 => ?_) (fun h_76 => ?_)
        · refine gq_iload_n (pc := 85) dX11_agree_85 rfl ?_
          refine gq_if_ne (pc := 86) 93 dX11_agree_86 (by decide) (fun h_86 => ?_) (fun h_86 => ?_)
          · exact absurd h_86 (by decide)
          · refine gq_iload_n (pc := 89) dX11_agree_89 rfl ?_
            refine gq_goto (pc := 90) 94 dX11_agree_90 (by decide) ?_
            exact gq_iret (pc := 94) rfl dX11_agree_94 ⟨rfl, rfl⟩
        · exact absurd h_76 (nI_ne0 (by omega) (by omega))
      · exact absurd (by decide) h_37
    | succ m ih =>
      intro i hi
      have hh : p_ok g (c + 1) V (p_hrs r i) := p_ok_weak (p_ok_hrs (c := c + (12 - i)) i (by rw [show c + (12 - i) + i = c + 12 by omega]; exact h)) (by omega)
      have hf := hF i
      have hg := p_ag_le r hV i
      refine gq_iload (pc := 33) dX11_agree_33 rfl ?_
      refine gq_bipush (pc := 35) dX11_agree_35 kb_12 ?_
      refine gq_ic_ge (pc := 37) 75 dX11_agree_37 (by decide) (fun h_37 => ?_) (fun h_37 => ?_)
      · exact absurd ((nI_leI (a := 12) (b := i) (by omega) (by omega)).mp h_37) (by omega)
      · refine gq_aload_n (pc := 40) dX11_agree_40 rfl ?_
        refine gq_getr (pc := 41) dX11_agree_41 fl_X11_64_11 sh_0 rfl ?_
        refine gq_iconst (pc := 44) dX11_agree_44 kc_1 ?_
        refine gq_rV1v (pc := 45) dX11_agree_45 cv_X11_214 sh_35 (c_th1 (c := c) (p_ok_weak h (by omega))) ⟨by decide, by decide⟩ rfl rfl (Nat.le_of_ble_eq_true rfl) ?_
        refine gq_aload_n (pc := 48) dX11_agree_48 rfl ?_
        refine gq_getr (pc := 49) dX11_agree_49 fl_X11_64_11 sh_0 rfl ?_
        refine gq_rV0i (pc := 52) dX11_agree_52 cv_X11_262 sh_35 (ge_sw (k_mostH_35 hV (by have ho := p_ok_hrs (g := g) (c := c) (V := V) (r := r) (i + 1) (p_ok_weak h (by omega)); exact ho.2.1))) ⟨by decide, by decide⟩ rfl rfl (Nat.le_of_ble_eq_true rfl) ?_
        rw [p_ag_hh hh]
        refine gq_istore (pc := 55) (l' := [(5, _), (4, _), (3, _), (2, _), (0, _), (1, _)]) dX11_agree_55 (by decide) rfl ?_
        refine gq_iload (pc := 57) dX11_agree_57 rfl ?_
        refine gq_iload_n (pc := 59) dX11_agree_59 rfl ?_
        refine gq_ic_le (pc := 60) 69 dX11_agree_60 (by decide) (fun h_60 => ?_) (fun h_60 => ?_)
        · refine gq_iinc (pc := 69) (l' := [(4, _), (5, _), (3, _), (2, _), (0, _), (1, _)]) dX11_agree_69 rfl (ge_inc1 i) (by decide) rfl ?_
          refine gq_goto (pc := 72) 33 dX11_agree_72 (by decide) ?_
          have q := ih (i + 1) (by omega)
          rw [p_af_n (F := p_ag r V) (b := (-1)) (n := i) (fun z => absurd ((nI_leI (a := p_ag r V i) (by omega) (by omega)).mp h_60) (by omega))] at q
          refine gq_sub [0, 2, 3, 4, 5] rfl ?_
          exact q
        · refine gq_iload (pc := 63) dX11_agree_63 rfl ?_
          refine gq_istore_n (pc := 65) (l' := [(3, _), (5, _), (4, _), (2, _), (0, _), (1, _)]) dX11_agree_65 (by decide) rfl ?_
          refine gq_iload (pc := 66) dX11_agree_66 rfl ?_
          refine gq_istore_n (pc := 68) (l' := [(2, _), (3, _), (5, _), (4, _), (0, _), (1, _)]) dX11_agree_68 (by decide) rfl ?_
          refine gq_iinc (pc := 69) (l' := [(4, _), (2, _), (3, _), (5, _), (0, _), (1, _)]) dX11_agree_69 rfl (ge_inc1 i) (by decide) rfl ?_
          refine gq_goto (pc := 72) 33 dX11_agree_72 (by decide) ?_
          have q := ih (i + 1) (by omega)
          rw [p_af_y (F := p_ag r V) (b := (-1)) (n := i) (by have := (nI_ltI (b := p_ag r V i) (by omega) (by omega)).mp (Int32.not_le.mp h_60); omega)] at q
          refine gq_sub [0, 2, 1, 4, 5] rfl ?_
          exact q
  refine gq_iload_n (pc := 0) dX11_agree_0 rfl ?_
  refine gq_iconst (pc := 1) dX11_agree_1 kc_0 ?_
  refine gq_iconst (pc := 2) dX11_agree_2 kc_1 ?_
  refine gq_rS3i (pc := 3) dX11_agree_3 cs_X11_105 (c_outside _ _ _) ⟨by decide, by decide⟩ (Nat.le_of_ble_eq_true rfl) ?_
  refine gq_if_eq (pc := 6) 15 dX11_agree_6 (by decide) (fun h_6 => ?_) (fun h_6 => ?_)
  · refine gq_iconst (pc := 15) dX11_agree_15 kc_m1 ?_
    refine gq_istore_n (pc := 16) (l' := [(2, _), (0, _), (1, _)]) dX11_agree_16 (by decide) rfl ?_
    refine gq_iconst (pc := 17) dX11_agree_17 kc_0 ?_
    refine gq_istore_n (pc := 18) (l' := [(3, _), (2, _), (0, _), (1, _)]) dX11_agree_18 (by decide) rfl ?_
    refine gq_aload_n (pc := 19) dX11_agree_19 rfl ?_
    refine gq_getr (pc := 20) dX11_agree_20 fl_X11_64_11 sh_0 rfl ?_
    refine gq_aload_n (pc := 23) dX11_agree_23 rfl ?_
    refine gq_getr (pc := 24) dX11_agree_24 fl_X11_60_11 sh_0 rfl ?_
    refine gq_rV1v (pc := 27) dX11_agree_27 cv_X11_223 sh_35 (c_cp1 (V := V)) ⟨by decide, by decide⟩ rfl rfl (Nat.le_of_ble_eq_true rfl) ?_
    refine gq_iconst (pc := 30) dX11_agree_30 kc_0 ?_
    refine gq_istore (pc := 31) (l' := [(4, _), (3, _), (2, _), (0, _), (1, _)]) dX11_agree_31 (by decide) rfl ?_
    refine gq_sub [0, 1, 2, 3, 4] rfl ?_
    exact key 12 0 (by omega)
  · exact absurd (by decide) h_6
set_option maxHeartbeats 1000000 in
theorem c_agree_ok1 (h : p_ok g (c + 12) V r) (h2 : ¬ (p_af (p_ag r V) (-1) (12)).2 = 0) : ge_N X ge_SH YX11_agree 6 [.ref (ge_ad X.1 0), .int 1] (ge_k g 25 r x hb) (some (.int (nI (p_af (p_ag r V) (-1) (12)).2))) (ge_k (ge_t1 g r V (12)) 25 r x hb) := by
  have hV := h.2.2.1
  have hF := p_af_le (b := (-1)) (p_ag_le r hV)
  refine gq_ofB (l := [(0, .ref (ge_ad X.1 0)), (1, .int 1)]) (by decide) (Nat.le_of_ble_eq_true rfl) rfl ?_
  have key : ∀ (m i : Nat), i + m = 12 → ge_B X ge_SH YX11_agree 6 (fun v2 g2 => v2 = (some (.int (nI (p_af (p_ag r V) (-1) (12)).2))) ∧ g2 = (ge_k (ge_t1 g r V (12)) 25 r x hb)) 33 [(4, .int (nI i)), (3, .int (nI (p_af (p_ag r V) (-1) (i)).2)), (2, .int (p_af (p_ag r V) (-1) (i)).1), (0, .ref (ge_ad X.1 0)), (1, .int 1)] [] (ge_k (ge_t1 g r V (i)) 25 r x hb) := by
    intro m
    induction m with
    | zero =>
      intro i hi
      obtain rfl : i = 12 := hi
      have hf := hF 12
      refine gq_iload (pc := 33) dX11_agree_33 rfl ?_
      refine gq_bipush (pc := 35) dX11_agree_35 kb_12 ?_
      refine gq_ic_ge (pc := 37) 75 dX11_agree_37 (by decide) (fun h_37 => ?_) (fun h_37 => ?_)
      · refine gq_iload_n (pc := 75) dX11_agree_75 rfl ?_
        refine gq_if_ne (pc := 76) 85 dX11_agree_76 (by decide) (fun h_76 => ?_) (fun h_76 => ?_)
        · refine gq_iload_n (pc := 85) dX11_agree_85 rfl ?_
          refine gq_if_ne (pc := 86) 93 dX11_agree_86 (by decide) (fun h_86 => ?_) (fun h_86 => ?_)
          · refine gq_iload_n (pc := 93) dX11_agree_93 rfl ?_
            exact gq_iret (pc := 94) rfl dX11_agree_94 ⟨rfl, rfl⟩
          · exact absurd h_86 (by decide)
        · exact absurd h_76 (nI_ne0 (by omega) (by omega))
      · exact absurd (by decide) h_37
    | succ m ih =>
      intro i hi
      have hh : p_ok g (c + 1) V (p_hrs r i) := p_ok_weak (p_ok_hrs (c := c + (12 - i)) i (by rw [show c + (12 - i) + i = c + 12 by omega]; exact h)) (by omega)
      have hf := hF i
      have hg := p_ag_le r hV i
      refine gq_iload (pc := 33) dX11_agree_33 rfl ?_
      refine gq_bipush (pc := 35) dX11_agree_35 kb_12 ?_
      refine gq_ic_ge (pc := 37) 75 dX11_agree_37 (by decide) (fun h_37 => ?_) (fun h_37 => ?_)
      · exact absurd ((nI_leI (a := 12) (b := i) (by omega) (by omega)).mp h_37) (by omega)
      · refine gq_aload_n (pc := 40) dX11_agree_40 rfl ?_
        refine gq_getr (pc := 41) dX11_agree_41 fl_X11_64_11 sh_0 rfl ?_
        refine gq_iconst (pc := 44) dX11_agree_44 kc_1 ?_
        refine gq_rV1v (pc := 45) dX11_agree_45 cv_X11_214 sh_35 (c_th1 (c := c) (p_ok_weak h (by omega))) ⟨by decide, by decide⟩ rfl rfl (Nat.le_of_ble_eq_true rfl) ?_
        refine gq_aload_n (pc := 48) dX11_agree_48 rfl ?_
        refine gq_getr (pc := 49) dX11_agree_49 fl_X11_64_11 sh_0 rfl ?_
        refine gq_rV0i (pc := 52) dX11_agree_52 cv_X11_262 sh_35 (ge_sw (k_mostH_35 hV (by have ho := p_ok_hrs (g := g) (c := c) (V := V) (r := r) (i + 1) (p_ok_weak h (by omega)); exact ho.2.1))) ⟨by decide, by decide⟩ rfl rfl (Nat.le_of_ble_eq_true rfl) ?_
        rw [p_ag_hh hh]
        refine gq_istore (pc := 55) (l' := [(5, _), (4, _), (3, _), (2, _), (0, _), (1, _)]) dX11_agree_55 (by decide) rfl ?_
        refine gq_iload (pc := 57) dX11_agree_57 rfl ?_
        refine gq_iload_n (pc := 59) dX11_agree_59 rfl ?_
        refine gq_ic_le (pc := 60) 69 dX11_agree_60 (by decide) (fun h_60 => ?_) (fun h_60 => ?_)
        · refine gq_iinc (pc := 69) (l' := [(4, _), (5, _), (3, _), (2, _), (0, _), (1, _)]) dX11_agree_69 rfl (ge_inc1 i) (by decide) rfl ?_
          refine gq_goto (pc := 72) 33 dX11_agree_72 (by decide) ?_
          have q := ih (i + 1) (by omega)
          rw [p_af_n (F := p_ag r V) (b := (-1)) (n := i) (fun z => absurd ((nI_leI (a := p_ag r V i) (by omega) (by omega)).mp h_60) (by omega))] at q
          refine gq_sub [0, 2, 3, 4, 5] rfl ?_
          exact q
        · refine gq_iload (pc := 63) dX11_agree_63 rfl ?_
          refine gq_istore_n (pc := 65) (l' := [(3, _), (5, _), (4, _), (2, _), (0, _), (1, _)]) dX11_agree_65 (by decide) rfl ?_
          refine gq_iload (pc := 66) dX11_agree_66 rfl ?_
          refine gq_istore_n (pc := 68) (l' := [(2, _), (3, _), (5, _), (4, _), (0, _), (1, _)]) dX11_agree_68 (by decide) rfl ?_
          refine gq_iinc (pc := 69) (l' := [(4, _), (2, _), (3, _), (5, _), (0, _), (1, _)]) dX11_agree_69 rfl (ge_inc1 i) (by decide) rfl ?_
          refine gq_goto (pc := 72) 33 dX11_agree_72 (by decide) ?_
          have q := ih (i + 1) (by omega)
          rw [p_af_y (F := p_ag r V) (b := (-1)) (n := i) (by have := (nI_ltI (b := p_ag r V i) (by omega) (by omega)).mp (Int32.not_le.mp h_60); omega)] at q
          refine gq_sub [0, 2, 1, 4, 5] rfl ?_
          exact q
  refine gq_iload_n (pc := 0) dX11_agree_0 rfl ?_
  refine gq_iconst (pc := 1) dX11_agree_1 kc_0 ?_
  refine gq_iconst (pc := 2) dX11_agree_2 kc_1 ?_
  refine gq_rS3i (pc := 3) dX11_agree_3 cs_X11_105 (c_outside _ _ _) ⟨by decide, by decide⟩ (Nat.le_of_ble_eq_true rfl) ?_
  refine gq_if_eq (pc := 6) 15 dX11_agree_6 (by decide) (fun h_6 => ?_) (fun h_6 => ?_)
  · refine gq_iconst (pc := 15) dX11_agree_15 kc_m1 ?_
    refine gq_istore_n (pc := 16) (l' := [(2, _), (0, _), (1, _)]) dX11_agree_16 (by decide) rfl ?_
    refine gq_iconst (pc := 17) dX11_agree_17 kc_0 ?_
    refine gq_istore_n (pc := 18) (l' := [(3, _), (2, _), (0, _), (1, _)]) dX11_agree_18 (by decide) rfl ?_
    refine gq_aload_n (pc := 19) dX11_agree_19 rfl ?_
    refine gq_getr (pc := 20) dX11_agree_20 fl_X11_64_11 sh_0 rfl ?_
    refine gq_aload_n (pc := 23) dX11_agree_23 rfl ?_
    refine gq_getr (pc := 24) dX11_agree_24 fl_X11_60_11 sh_0 rfl ?_
    refine gq_rV1v (pc := 27) dX11_agree_27 cv_X11_223 sh_35 (c_cp1 (V := V)) ⟨by decide, by decide⟩ rfl rfl (Nat.le_of_ble_eq_true rfl) ?_
    refine gq_iconst (pc := 30) dX11_agree_30 kc_0 ?_
    refine gq_istore (pc := 31) (l' := [(4, _), (3, _), (2, _), (0, _), (1, _)]) dX11_agree_31 (by decide) rfl ?_
    refine gq_sub [0, 1, 2, 3, 4] rfl ?_
    exact key 12 0 (by omega)
  · exact absurd (by decide) h_6
set_option maxHeartbeats 1000000 in
theorem c_agree_no (h : p_ok g (c + 12) V r) {a : Int32} (ha : ¬ p_in a 0 1 = 0) (h2 : (p_af (p_ag r V) (-1) (12)).2 = 0) : ge_N X ge_SH YX11_agree 6 [.ref (ge_ad X.1 0), .int a] (ge_k g 25 r x hb) (some (.int (-1000000000 - 2))) (ge_k (ge_up (ge_t1 g r V 12) 75 2 (g 75 2 + 1)) 25 r x hb) := by
  have hV := h.2.2.1
  have hF := p_af_le (b := (-1)) (p_ag_le r hV)
  refine gq_ofB (l := [(0, .ref (ge_ad X.1 0)), (1, .int a)]) (by decide) (Nat.le_of_ble_eq_true rfl) rfl ?_
  have key : ∀ (m i : Nat), i + m = 12 → ge_B X ge_SH YX11_agree 6 (fun v2 g2 => v2 = (some (.int (-1000000000 - 2))) ∧ g2 = (ge_k (ge_up (ge_t1 g r V 12) 75 2 (g 75 2 + 1)) 25 r x hb)) 33 [(4, .int (nI i)), (3, .int (nI (p_af (p_ag r V) (-1) (i)).2)), (2, .int (p_af (p_ag r V) (-1) (i)).1), (0, .ref (ge_ad X.1 0)), (1, .int a)] [] (ge_k (ge_t1 g r V (i)) 25 r x hb) := by
    intro m
    induction m with
    | zero =>
      intro i hi
      obtain rfl : i = 12 := hi
      have hf := hF 12
      refine gq_iload (pc := 33) dX11_agree_33 rfl ?_
      refine gq_bipush (pc := 35) dX11_agree_35 kb_12 ?_
      refine gq_ic_ge (pc := 37) 75 dX11_agree_37 (by decide) (fun h_37 => ?_) (fun h_37 => ?_)
      · refine gq_iload_n (pc := 75) dX11_agree_75 rfl ?_
        refine gq_if_ne (pc := 76) 85 dX11_agree_76 (by decide) (fun h_76 => ?_) (fun h_76 => ?_)
        · exact absurd (show nI (p_af (p_ag r V) (-1) (12)).2 = 0 by rw [h2]; rfl) h_76
        · refine gq_aload_n (pc := 79) dX11_agree_79 rfl ?_
          refine gq_iconst (pc := 80) dX11_agree_80 kc_2 ?_
          refine gq_rV1i (pc := 81) dX11_agree_81 cv_X11_109 sh_0 (c_error kl_2 (by decide)) ⟨by decide, by decide⟩ rfl rfl (Nat.le_of_ble_eq_true rfl) ?_
          exact gq_iret (pc := 84) rfl dX11_agree_84 ⟨rfl, rfl⟩
      · exact absurd (by decide) h_37
    | succ m ih =>
      intro i hi
      have hh : p_ok g (c + 1) V (p_hrs r i) := p_ok_weak (p_ok_hrs (c := c + (12 - i)) i (by rw [show c + (12 - i) + i = c + 12 by omega]; exact h)) (by omega)
      have hf := hF i
      have hg := p_ag_le r hV i
      refine gq_iload (pc := 33) dX11_agree_33 rfl ?_
      refine gq_bipush (pc := 35) dX11_agree_35 kb_12 ?_
      refine gq_ic_ge (pc := 37) 75 dX11_agree_37 (by decide) (fun h_37 => ?_) (fun h_37 => ?_)
      · exact absurd ((nI_leI (a := 12) (b := i) (by omega) (by omega)).mp h_37) (by omega)
      · refine gq_aload_n (pc := 40) dX11_agree_40 rfl ?_
        refine gq_getr (pc := 41) dX11_agree_41 fl_X11_64_11 sh_0 rfl ?_
        refine gq_iconst (pc := 44) dX11_agree_44 kc_1 ?_
        refine gq_rV1v (pc := 45) dX11_agree_45 cv_X11_214 sh_35 (c_th1 (c := c) (p_ok_weak h (by omega))) ⟨by decide, by decide⟩ rfl rfl (Nat.le_of_ble_eq_true rfl) ?_
        refine gq_aload_n (pc := 48) dX11_agree_48 rfl ?_
        refine gq_getr (pc := 49) dX11_agree_49 fl_X11_64_11 sh_0 rfl ?_
        refine gq_rV0i (pc := 52) dX11_agree_52 cv_X11_262 sh_35 (ge_sw (k_mostH_35 hV (by have ho := p_ok_hrs (g := g) (c := c) (V := V) (r := r) (i + 1) (p_ok_weak h (by omega)); exact ho.2.1))) ⟨by decide, by decide⟩ rfl rfl (Nat.le_of_ble_eq_true rfl) ?_
        rw [p_ag_hh hh]
        refine gq_istore (pc := 55) (l' := [(5, _), (4, _), (3, _), (2, _), (0, _), (1, _)]) dX11_agree_55 (by decide) rfl ?_
        refine gq_iload (pc := 57) dX11_agree_57 rfl ?_
        refine gq_iload_n (pc := 59) dX11_agree_59 rfl ?_
        refine gq_ic_le (pc := 60) 69 dX11_agree_60 (by decide) (fun h_60 => ?_) (fun h_60 => ?_)
        · refine gq_iinc (pc := 69) (l' := [(4, _), (5, _), (3, _), (2, _), (0, _), (1, _)]) dX11_agree_69 rfl (ge_inc1 i) (by decide) rfl ?_
          refine gq_goto (pc := 72) 33 dX11_agree_72 (by decide) ?_
          have q := ih (i + 1) (by omega)
          rw [p_af_n (F := p_ag r V) (b := (-1)) (n := i) (fun z => absurd ((nI_leI (a := p_ag r V i) (by omega) (by omega)).mp h_60) (by omega))] at q
          refine gq_sub [0, 2, 3, 4, 5] rfl ?_
          exact q
        · refine gq_iload (pc := 63) dX11_agree_63 rfl ?_
          refine gq_istore_n (pc := 65) (l' := [(3, _), (5, _), (4, _), (2, _), (0, _), (1, _)]) dX11_agree_65 (by decide) rfl ?_
          refine gq_iload (pc := 66) dX11_agree_66 rfl ?_
          refine gq_istore_n (pc := 68) (l' := [(2, _), (3, _), (5, _), (4, _), (0, _), (1, _)]) dX11_agree_68 (by decide) rfl ?_
          refine gq_iinc (pc := 69) (l' := [(4, _), (2, _), (3, _), (5, _), (0, _), (1, _)]) dX11_agree_69 rfl (ge_inc1 i) (by decide) rfl ?_
          refine gq_goto (pc := 72) 33 dX11_agree_72 (by decide) ?_
          have q := ih (i + 1) (by omega)
          rw [p_af_y (F := p_ag r V) (b := (-1)) (n := i) (by have := (nI_ltI (b := p_ag r V i) (by omega) (by omega)).mp (Int32.not_le.mp h_60); omega)] at q
          refine gq_sub [0, 2, 1, 4, 5] rfl ?_
          exact q
  refine gq_iload_n (pc := 0) dX11_agree_0 rfl ?_
  refine gq_iconst (pc := 1) dX11_agree_1 kc_0 ?_
  refine gq_iconst (pc := 2) dX11_agree_2 kc_1 ?_
  refine gq_rS3i (pc := 3) dX11_agree_3 cs_X11_105 (c_outside _ _ _) ⟨by decide, by decide⟩ (Nat.le_of_ble_eq_true rfl) ?_
  refine gq_if_eq (pc := 6) 15 dX11_agree_6 (by decide) (fun h_6 => ?_) (fun h_6 => ?_)
  · refine gq_iconst (pc := 15) dX11_agree_15 kc_m1 ?_
    refine gq_istore_n (pc := 16) (l' := [(2, _), (0, _), (1, _)]) dX11_agree_16 (by decide) rfl ?_
    refine gq_iconst (pc := 17) dX11_agree_17 kc_0 ?_
    refine gq_istore_n (pc := 18) (l' := [(3, _), (2, _), (0, _), (1, _)]) dX11_agree_18 (by decide) rfl ?_
    refine gq_aload_n (pc := 19) dX11_agree_19 rfl ?_
    refine gq_getr (pc := 20) dX11_agree_20 fl_X11_64_11 sh_0 rfl ?_
    refine gq_aload_n (pc := 23) dX11_agree_23 rfl ?_
    refine gq_getr (pc := 24) dX11_agree_24 fl_X11_60_11 sh_0 rfl ?_
    refine gq_rV1v (pc := 27) dX11_agree_27 cv_X11_223 sh_35 (c_cp1 (V := V)) ⟨by decide, by decide⟩ rfl rfl (Nat.le_of_ble_eq_true rfl) ?_
    refine gq_iconst (pc := 30) dX11_agree_30 kc_0 ?_
    refine gq_istore (pc := 31) (l' := [(4, _), (3, _), (2, _), (0, _), (1, _)]) dX11_agree_31 (by decide) rfl ?_
    refine gq_sub [0, 1, 2, 3, 4] rfl ?_
    exact key 12 0 (by omega)
  · exact absurd (p_nt_0.mpr ha) h_6
set_option maxHeartbeats 1000000 in
theorem m_agree_ok0 (h : p_ok g (c + 12) V r) (h2 : ¬ (p_af (p_ag r V) 0 (12)).2 = 0) : ge_N X ge_SH YX12_agree 45 [.ref (ge_ad X.1 76), .int 0] (ge_m g r f) (some (.int (p_af (p_ag r V) 0 (12)).1)) (ge_m (ge_row g 79 r) r (p_gf f r 12)) := by
  have hV := h.2.2.1
  have hF := p_af_le (b := 0) (p_ag_le r hV)
  refine gq_ofB (l := [(0, .ref (ge_ad X.1 76)), (1, .int 0)]) (by decide) (Nat.le_of_ble_eq_true rfl) rfl ?_
  have key : ∀ (m i : Nat), i + m = 12 → ge_B X ge_SH YX12_agree 45 (fun v2 g2 => v2 = (some (.int (p_af (p_ag r V) 0 (12)).1)) ∧ g2 = (ge_m (ge_row g 79 r) r (p_gf f r 12))) 35 [(4, .int (nI i)), (3, .int (nI (p_af (p_ag r V) 0 (i)).2)), (2, .int (p_af (p_ag r V) 0 (i)).1), (0, .ref (ge_ad X.1 76)), (1, .int 0)] [] (ge_m (ge_row g 79 r) (p_hrs r (i)) (p_gf f r (i))) := by
    intro m
    induction m with
    | zero =>
      intro i hi
      obtain rfl : i = 12 := hi
      have hf := hF 12
      refine gq_iload (pc := 35) dX12_agree_35 rfl ?_
      refine gq_bipush (pc := 37) dX12_agree_37 kb_12 ?_
      refine gq_ic_ge (pc := 39) 84 dX12_agree_39 (by decide) (fun h_39 => ?_) (fun h_39 => ?_)
      · refine gq_aload_n (pc := 84) dX12_agree_84 rfl ?_
        refine gq_aload_n (pc := 85) dX12_agree_85 rfl ?_
        refine gq_getr (pc := 86) dX12_agree_86 fl_X12_16_12 sh_76 rfl ?_
        refine gq_aload_n (pc := 89) dX12_agree_89 rfl ?_
        refine gq_getr (pc := 90) dX12_agree_90 fl_X12_7_12 sh_76 rfl ?_
        refine gq_rV2v (pc := 93) dX12_agree_93 cv_X12_170 sh_76 (k_move_back sh_79 (by decide) (by decide) (by decide)) ⟨by decide, by decide⟩ rfl rfl (Nat.le_of_ble_eq_true rfl) ?_
        refine gq_tog (g := ge_m (ge_row g 79 r) r (p_gf f r 12)) (by rw [ge_row_self]) ?_
        refine gq_iload_n (pc := 96) dX12_agree_96 rfl ?_
        refine gq_if_ne (pc := 97) 107 dX12_agree_97 (by decide) (fun h_97 => ?_) (fun h_97 => ?_)
        · refine gq_iload_n (pc := 107) dX12_agree_107 rfl ?_
          refine gq_if_ne (pc := 108) 115 dX12_agree_108 (by decide) (fun h_108 => ?_) (fun h_108 => ?_)
          · exact absurd h_108 (by decide)
          · refine gq_iload_n (pc := 111) dX12_agree_111 rfl ?_
            refine gq_goto (pc := 112) 116 dX12_agree_112 (by decide) ?_
            exact gq_iret (pc := 116) rfl dX12_agree_116 ⟨rfl, rfl⟩
        · exact absurd h_97 (nI_ne0 (by omega) (by omega))
      · exact absurd (by decide) h_39
    | succ m ih =>
      intro i hi
      have hh : p_ok g (c + 1) V (p_hrs r i) := p_ok_weak (p_ok_hrs (c := c + (12 - i)) i (by rw [show c + (12 - i) + i = c + 12 by omega]; exact h)) (by omega)
      have hf := hF i
      have hg := p_ag_le r hV i
      refine gq_iload (pc := 35) dX12_agree_35 rfl ?_
      refine gq_bipush (pc := 37) dX12_agree_37 kb_12 ?_
      refine gq_ic_ge (pc := 39) 84 dX12_agree_39 (by decide) (fun h_39 => ?_) (fun h_39 => ?_)
      · exact absurd ((nI_leI (a := 12) (b := i) (by omega) (by omega)).mp h_39) (by omega)
      · refine gq_aload_n (pc := 42) dX12_agree_42 rfl ?_
        refine gq_rV0i (pc := 43) dX12_agree_43 cv_X12_216 sh_76 (m_agreeing hh) ⟨by decide, by decide⟩ rfl rfl (Nat.le_of_ble_eq_true rfl) ?_
        refine gq_istore (pc := 46) (l' := [(5, _), (4, _), (3, _), (2, _), (0, _), (1, _)]) dX12_agree_46 (by decide) rfl ?_
        refine gq_iload (pc := 48) dX12_agree_48 rfl ?_
        refine gq_iload_n (pc := 50) dX12_agree_50 rfl ?_
        refine gq_ic_le (pc := 51) 59 dX12_agree_51 (by decide) (fun h_51 => ?_) (fun h_51 => ?_)
        · refine gq_iload_n (pc := 59) dX12_agree_59 rfl ?_
          refine gq_istore_n (pc := 60) (l' := [(2, _), (5, _), (4, _), (3, _), (0, _), (1, _)]) dX12_agree_60 (by decide) rfl ?_
          refine gq_iload (pc := 61) dX12_agree_61 rfl ?_
          refine gq_iload_n (pc := 63) dX12_agree_63 rfl ?_
          refine gq_ic_le (pc := 64) 72 dX12_agree_64 (by decide) (fun h_64 => ?_) (fun h_64 => ?_)
          · refine gq_iload_n (pc := 72) dX12_agree_72 rfl ?_
            refine gq_istore_n (pc := 73) (l' := [(3, _), (2, _), (5, _), (4, _), (0, _), (1, _)]) dX12_agree_73 (by decide) rfl ?_
            refine gq_aload_n (pc := 74) dX12_agree_74 rfl ?_
            refine gq_rV0v (pc := 75) dX12_agree_75 cv_X12_188 sh_76 (k_oneHour hh.1) ⟨by decide, by decide⟩ rfl rfl (Nat.le_of_ble_eq_true rfl) ?_
            refine gq_tog (g := (ge_m (ge_row g 79 r) (p_hrs r (i + 1)) (p_gf f r (i + 1)))) (by rw [p_gf_s]; rfl) ?_
            refine gq_iinc (pc := 78) (l' := [(4, _), (3, _), (2, _), (5, _), (0, _), (1, _)]) dX12_agree_78 rfl (ge_inc1 i) (by decide) rfl ?_
            refine gq_goto (pc := 81) 35 dX12_agree_81 (by decide) ?_
            have q := ih (i + 1) (by omega)
            rw [p_af_n (F := p_ag r V) (b := 0) (n := i) (fun z => absurd ((nI_leI (a := p_ag r V i) (by omega) (by omega)).mp h_51) (by omega))] at q
            refine gq_sub [0, 1, 2, 4, 5] rfl ?_
            exact q
          · exact absurd h_51 h_64
        · refine gq_iload (pc := 54) dX12_agree_54 rfl ?_
          refine gq_goto (pc := 56) 60 dX12_agree_56 (by decide) ?_
          refine gq_istore_n (pc := 60) (l' := [(2, _), (5, _), (4, _), (3, _), (0, _), (1, _)]) dX12_agree_60 (by decide) rfl ?_
          refine gq_iload (pc := 61) dX12_agree_61 rfl ?_
          refine gq_iload_n (pc := 63) dX12_agree_63 rfl ?_
          refine gq_ic_le (pc := 64) 72 dX12_agree_64 (by decide) (fun h_64 => ?_) (fun h_64 => ?_)
          · exact absurd h_64 h_51
          · refine gq_iload (pc := 67) dX12_agree_67 rfl ?_
            refine gq_goto (pc := 69) 73 dX12_agree_69 (by decide) ?_
            refine gq_istore_n (pc := 73) (l' := [(3, _), (2, _), (5, _), (4, _), (0, _), (1, _)]) dX12_agree_73 (by decide) rfl ?_
            refine gq_aload_n (pc := 74) dX12_agree_74 rfl ?_
            refine gq_rV0v (pc := 75) dX12_agree_75 cv_X12_188 sh_76 (k_oneHour hh.1) ⟨by decide, by decide⟩ rfl rfl (Nat.le_of_ble_eq_true rfl) ?_
            refine gq_tog (g := (ge_m (ge_row g 79 r) (p_hrs r (i + 1)) (p_gf f r (i + 1)))) (by rw [p_gf_s]; rfl) ?_
            refine gq_iinc (pc := 78) (l' := [(4, _), (3, _), (2, _), (5, _), (0, _), (1, _)]) dX12_agree_78 rfl (ge_inc1 i) (by decide) rfl ?_
            refine gq_goto (pc := 81) 35 dX12_agree_81 (by decide) ?_
            have q := ih (i + 1) (by omega)
            rw [p_af_y (F := p_ag r V) (b := 0) (n := i) (by have := (nI_ltI (b := p_ag r V i) (by omega) (by omega)).mp (Int32.not_le.mp h_51); omega)] at q
            refine gq_sub [0, 1, 2, 4, 5] rfl ?_
            exact q
  refine gq_iload_n (pc := 0) dX12_agree_0 rfl ?_
  refine gq_iconst (pc := 1) dX12_agree_1 kc_0 ?_
  refine gq_iconst (pc := 2) dX12_agree_2 kc_1 ?_
  refine gq_rS3i (pc := 3) dX12_agree_3 cs_X12_41 (k_in _ _ _) ⟨by decide, by decide⟩ (Nat.le_of_ble_eq_true rfl) ?_
  refine gq_if_ne (pc := 6) 16 dX12_agree_6 (by decide) (fun h_6 => ?_) (fun h_6 => ?_)
  · refine gq_iconst (pc := 16) dX12_agree_16 kc_0 ?_
    refine gq_istore_n (pc := 17) (l' := [(2, _), (0, _), (1, _)]) dX12_agree_17 (by decide) rfl ?_
    refine gq_iconst (pc := 18) dX12_agree_18 kc_0 ?_
    refine gq_istore_n (pc := 19) (l' := [(3, _), (2, _), (0, _), (1, _)]) dX12_agree_19 (by decide) rfl ?_
    refine gq_aload_n (pc := 20) dX12_agree_20 rfl ?_
    refine gq_aload_n (pc := 21) dX12_agree_21 rfl ?_
    refine gq_getr (pc := 22) dX12_agree_22 fl_X12_7_12 sh_76 rfl ?_
    refine gq_aload_n (pc := 25) dX12_agree_25 rfl ?_
    refine gq_getr (pc := 26) dX12_agree_26 fl_X12_16_12 sh_76 rfl ?_
    refine gq_rV2v (pc := 29) dX12_agree_29 cv_X12_170 sh_76 (k_move_to sh_79 (by decide) (by decide)) ⟨by decide, by decide⟩ rfl rfl (Nat.le_of_ble_eq_true rfl) ?_
    refine gq_iconst (pc := 32) dX12_agree_32 kc_0 ?_
    refine gq_istore (pc := 33) (l' := [(4, _), (3, _), (2, _), (0, _), (1, _)]) dX12_agree_33 (by decide) rfl ?_
    refine gq_sub [0, 1, 2, 3, 4] rfl ?_
    exact key 12 0 (by omega)
  · exact absurd h_6 (by decide)
set_option maxHeartbeats 1000000 in
theorem m_agree_ok1 (h : p_ok g (c + 12) V r) (h2 : ¬ (p_af (p_ag r V) 0 (12)).2 = 0) : ge_N X ge_SH YX12_agree 45 [.ref (ge_ad X.1 76), .int 1] (ge_m g r f) (some (.int (nI (p_af (p_ag r V) 0 (12)).2))) (ge_m (ge_row g 79 r) r (p_gf f r 12)) := by
  have hV := h.2.2.1
  have hF := p_af_le (b := 0) (p_ag_le r hV)
  refine gq_ofB (l := [(0, .ref (ge_ad X.1 76)), (1, .int 1)]) (by decide) (Nat.le_of_ble_eq_true rfl) rfl ?_
  have key : ∀ (m i : Nat), i + m = 12 → ge_B X ge_SH YX12_agree 45 (fun v2 g2 => v2 = (some (.int (nI (p_af (p_ag r V) 0 (12)).2))) ∧ g2 = (ge_m (ge_row g 79 r) r (p_gf f r 12))) 35 [(4, .int (nI i)), (3, .int (nI (p_af (p_ag r V) 0 (i)).2)), (2, .int (p_af (p_ag r V) 0 (i)).1), (0, .ref (ge_ad X.1 76)), (1, .int 1)] [] (ge_m (ge_row g 79 r) (p_hrs r (i)) (p_gf f r (i))) := by
    intro m
    induction m with
    | zero =>
      intro i hi
      obtain rfl : i = 12 := hi
      have hf := hF 12
      refine gq_iload (pc := 35) dX12_agree_35 rfl ?_
      refine gq_bipush (pc := 37) dX12_agree_37 kb_12 ?_
      refine gq_ic_ge (pc := 39) 84 dX12_agree_39 (by decide) (fun h_39 => ?_) (fun h_39 => ?_)
      · refine gq_aload_n (pc := 84) dX12_agree_84 rfl ?_
        refine gq_aload_n (pc := 85) dX12_agree_85 rfl ?_
        refine gq_getr (pc := 86) dX12_agree_86 fl_X12_16_12 sh_76 rfl ?_
        refine gq_aload_n (pc := 89) dX12_agree_89 rfl ?_
        refine gq_getr (pc := 90) dX12_agree_90 fl_X12_7_12 sh_76 rfl ?_
        refine gq_rV2v (pc := 93) dX12_agree_93 cv_X12_170 sh_76 (k_move_back sh_79 (by decide) (by decide) (by decide)) ⟨by decide, by decide⟩ rfl rfl (Nat.le_of_ble_eq_true rfl) ?_
        refine gq_tog (g := ge_m (ge_row g 79 r) r (p_gf f r 12)) (by rw [ge_row_self]) ?_
        refine gq_iload_n (pc := 96) dX12_agree_96 rfl ?_
        refine gq_if_ne (pc := 97) 107 dX12_agree_97 (by decide) (fun h_97 => ?_) (fun h_97 => ?_)
        · refine gq_iload_n (pc := 107) dX12_agree_107 rfl ?_
          refine gq_if_ne (pc := 108) 115 dX12_agree_108 (by decide) (fun h_108 => ?_) (fun h_108 => ?_)
          · refine gq_iload_n (pc := 115) dX12_agree_115 rfl ?_
            exact gq_iret (pc := 116) rfl dX12_agree_116 ⟨rfl, rfl⟩
          · exact absurd h_108 (by decide)
        · exact absurd h_97 (nI_ne0 (by omega) (by omega))
      · exact absurd (by decide) h_39
    | succ m ih =>
      intro i hi
      have hh : p_ok g (c + 1) V (p_hrs r i) := p_ok_weak (p_ok_hrs (c := c + (12 - i)) i (by rw [show c + (12 - i) + i = c + 12 by omega]; exact h)) (by omega)
      have hf := hF i
      have hg := p_ag_le r hV i
      refine gq_iload (pc := 35) dX12_agree_35 rfl ?_
      refine gq_bipush (pc := 37) dX12_agree_37 kb_12 ?_
      refine gq_ic_ge (pc := 39) 84 dX12_agree_39 (by decide) (fun h_39 => ?_) (fun h_39 => ?_)
      · exact absurd ((nI_leI (a := 12) (b := i) (by omega) (by omega)).mp h_39) (by omega)
      · refine gq_aload_n (pc := 42) dX12_agree_42 rfl ?_
        refine gq_rV0i (pc := 43) dX12_agree_43 cv_X12_216 sh_76 (m_agreeing hh) ⟨by decide, by decide⟩ rfl rfl (Nat.le_of_ble_eq_true rfl) ?_
        refine gq_istore (pc := 46) (l' := [(5, _), (4, _), (3, _), (2, _), (0, _), (1, _)]) dX12_agree_46 (by decide) rfl ?_
        refine gq_iload (pc := 48) dX12_agree_48 rfl ?_
        refine gq_iload_n (pc := 50) dX12_agree_50 rfl ?_
        refine gq_ic_le (pc := 51) 59 dX12_agree_51 (by decide) (fun h_51 => ?_) (fun h_51 => ?_)
        · refine gq_iload_n (pc := 59) dX12_agree_59 rfl ?_
          refine gq_istore_n (pc := 60) (l' := [(2, _), (5, _), (4, _), (3, _), (0, _), (1, _)]) dX12_agree_60 (by decide) rfl ?_
          refine gq_iload (pc := 61) dX12_agree_61 rfl ?_
          refine gq_iload_n (pc := 63) dX12_agree_63 rfl ?_
          refine gq_ic_le (pc := 64) 72 dX12_agree_64 (by decide) (fun h_64 => ?_) (fun h_64 => ?_)
          · refine gq_iload_n (pc := 72) dX12_agree_72 rfl ?_
            refine gq_istore_n (pc := 73) (l' := [(3, _), (2, _), (5, _), (4, _), (0, _), (1, _)]) dX12_agree_73 (by decide) rfl ?_
            refine gq_aload_n (pc := 74) dX12_agree_74 rfl ?_
            refine gq_rV0v (pc := 75) dX12_agree_75 cv_X12_188 sh_76 (k_oneHour hh.1) ⟨by decide, by decide⟩ rfl rfl (Nat.le_of_ble_eq_true rfl) ?_
            refine gq_tog (g := (ge_m (ge_row g 79 r) (p_hrs r (i + 1)) (p_gf f r (i + 1)))) (by rw [p_gf_s]; rfl) ?_
            refine gq_iinc (pc := 78) (l' := [(4, _), (3, _), (2, _), (5, _), (0, _), (1, _)]) dX12_agree_78 rfl (ge_inc1 i) (by decide) rfl ?_
            refine gq_goto (pc := 81) 35 dX12_agree_81 (by decide) ?_
            have q := ih (i + 1) (by omega)
            rw [p_af_n (F := p_ag r V) (b := 0) (n := i) (fun z => absurd ((nI_leI (a := p_ag r V i) (by omega) (by omega)).mp h_51) (by omega))] at q
            refine gq_sub [0, 1, 2, 4, 5] rfl ?_
            exact q
          · exact absurd h_51 h_64
        · refine gq_iload (pc := 54) dX12_agree_54 rfl ?_
          refine gq_goto (pc := 56) 60 dX12_agree_56 (by decide) ?_
          refine gq_istore_n (pc := 60) (l' := [(2, _), (5, _), (4, _), (3, _), (0, _), (1, _)]) dX12_agree_60 (by decide) rfl ?_
          refine gq_iload (pc := 61) dX12_agree_61 rfl ?_
          refine gq_iload_n (pc := 63) dX12_agree_63 rfl ?_
          refine gq_ic_le (pc := 64) 72 dX12_agree_64 (by decide) (fun h_64 => ?_) (fun h_64 => ?_)
          · exact absurd h_64 h_51
          · refine gq_iload (pc := 67) dX12_agree_67 rfl ?_
            refine gq_goto (pc := 69) 73 dX12_agree_69 (by decide) ?_
            refine gq_istore_n (pc := 73) (l' := [(3, _), (2, _), (5, _), (4, _), (0, _), (1, _)]) dX12_agree_73 (by decide) rfl ?_
            refine gq_aload_n (pc := 74) dX12_agree_74 rfl ?_
            refine gq_rV0v (pc := 75) dX12_agree_75 cv_X12_188 sh_76 (k_oneHour hh.1) ⟨by decide, by decide⟩ rfl rfl (Nat.le_of_ble_eq_true rfl) ?_
            refine gq_tog (g := (ge_m (ge_row g 79 r) (p_hrs r (i + 1)) (p_gf f r (i + 1)))) (by rw [p_gf_s]; rfl) ?_
            refine gq_iinc (pc := 78) (l' := [(4, _), (3, _), (2, _), (5, _), (0, _), (1, _)]) dX12_agree_78 rfl (ge_inc1 i) (by decide) rfl ?_
            refine gq_goto (pc := 81) 35 dX12_agree_81 (by decide) ?_
            have q := ih (i + 1) (by omega)
            rw [p_af_y (F := p_ag r V) (b := 0) (n := i) (by have := (nI_ltI (b := p_ag r V i) (by omega) (by omega)).mp (Int32.not_le.mp h_51); omega)] at q
            refine gq_sub [0, 1, 2, 4, 5] rfl ?_
            exact q
  refine gq_iload_n (pc := 0) dX12_agree_0 rfl ?_
  refine gq_iconst (pc := 1) dX12_agree_1 kc_0 ?_
  refine gq_iconst (pc := 2) dX12_agree_2 kc_1 ?_
  refine gq_rS3i (pc := 3) dX12_agree_3 cs_X12_41 (k_in _ _ _) ⟨by decide, by decide⟩ (Nat.le_of_ble_eq_true rfl) ?_
  refine gq_if_ne (pc := 6) 16 dX12_agree_6 (by decide) (fun h_6 => ?_) (fun h_6 => ?_)
  · refine gq_iconst (pc := 16) dX12_agree_16 kc_0 ?_
    refine gq_istore_n (pc := 17) (l' := [(2, _), (0, _), (1, _)]) dX12_agree_17 (by decide) rfl ?_
    refine gq_iconst (pc := 18) dX12_agree_18 kc_0 ?_
    refine gq_istore_n (pc := 19) (l' := [(3, _), (2, _), (0, _), (1, _)]) dX12_agree_19 (by decide) rfl ?_
    refine gq_aload_n (pc := 20) dX12_agree_20 rfl ?_
    refine gq_aload_n (pc := 21) dX12_agree_21 rfl ?_
    refine gq_getr (pc := 22) dX12_agree_22 fl_X12_7_12 sh_76 rfl ?_
    refine gq_aload_n (pc := 25) dX12_agree_25 rfl ?_
    refine gq_getr (pc := 26) dX12_agree_26 fl_X12_16_12 sh_76 rfl ?_
    refine gq_rV2v (pc := 29) dX12_agree_29 cv_X12_170 sh_76 (k_move_to sh_79 (by decide) (by decide)) ⟨by decide, by decide⟩ rfl rfl (Nat.le_of_ble_eq_true rfl) ?_
    refine gq_iconst (pc := 32) dX12_agree_32 kc_0 ?_
    refine gq_istore (pc := 33) (l' := [(4, _), (3, _), (2, _), (0, _), (1, _)]) dX12_agree_33 (by decide) rfl ?_
    refine gq_sub [0, 1, 2, 3, 4] rfl ?_
    exact key 12 0 (by omega)
  · exact absurd h_6 (by decide)
set_option maxHeartbeats 1000000 in
theorem m_agree_no (h : p_ok g (c + 12) V r) {a : Int32} (ha : ¬ p_in a 0 1 = 0) (h2 : (p_af (p_ag r V) 0 (12)).2 = 0) : ge_N X ge_SH YX12_agree 45 [.ref (ge_ad X.1 76), .int a] (ge_m g r f) (some (.int (-1000000002))) (ge_m (ge_up (ge_row g 79 r) 81 2 (g 81 2 + 1)) r (p_gf f r 12)) := by
  have hV := h.2.2.1
  have hF := p_af_le (b := 0) (p_ag_le r hV)
  refine gq_ofB (l := [(0, .ref (ge_ad X.1 76)), (1, .int a)]) (by decide) (Nat.le_of_ble_eq_true rfl) rfl ?_
  have key : ∀ (m i : Nat), i + m = 12 → ge_B X ge_SH YX12_agree 45 (fun v2 g2 => v2 = (some (.int (-1000000002))) ∧ g2 = (ge_m (ge_up (ge_row g 79 r) 81 2 (g 81 2 + 1)) r (p_gf f r 12))) 35 [(4, .int (nI i)), (3, .int (nI (p_af (p_ag r V) 0 (i)).2)), (2, .int (p_af (p_ag r V) 0 (i)).1), (0, .ref (ge_ad X.1 76)), (1, .int a)] [] (ge_m (ge_row g 79 r) (p_hrs r (i)) (p_gf f r (i))) := by
    intro m
    induction m with
    | zero =>
      intro i hi
      obtain rfl : i = 12 := hi
      have hf := hF 12
      refine gq_iload (pc := 35) dX12_agree_35 rfl ?_
      refine gq_bipush (pc := 37) dX12_agree_37 kb_12 ?_
      refine gq_ic_ge (pc := 39) 84 dX12_agree_39 (by decide) (fun h_39 => ?_) (fun h_39 => ?_)
      · refine gq_aload_n (pc := 84) dX12_agree_84 rfl ?_
        refine gq_aload_n (pc := 85) dX12_agree_85 rfl ?_
        refine gq_getr (pc := 86) dX12_agree_86 fl_X12_16_12 sh_76 rfl ?_
        refine gq_aload_n (pc := 89) dX12_agree_89 rfl ?_
        refine gq_getr (pc := 90) dX12_agree_90 fl_X12_7_12 sh_76 rfl ?_
        refine gq_rV2v (pc := 93) dX12_agree_93 cv_X12_170 sh_76 (k_move_back sh_79 (by decide) (by decide) (by decide)) ⟨by decide, by decide⟩ rfl rfl (Nat.le_of_ble_eq_true rfl) ?_
        refine gq_tog (g := ge_m (ge_row g 79 r) r (p_gf f r 12)) (by rw [ge_row_self]) ?_
        refine gq_iload_n (pc := 96) dX12_agree_96 rfl ?_
        refine gq_if_ne (pc := 97) 107 dX12_agree_97 (by decide) (fun h_97 => ?_) (fun h_97 => ?_)
        · exact absurd (show nI (p_af (p_ag r V) 0 (12)).2 = 0 by rw [h2]; rfl) h_97
        · refine gq_aload_n (pc := 100) dX12_agree_100 rfl ?_
          refine gq_ldc (pc := 101) dX12_agree_101 kn_X12_202 ?_
          refine gq_rV1i (pc := 103) dX12_agree_103 cv_X12_54 sh_76 (k_errs (j := 2) (by decide) (by decide)) ⟨by decide, by decide⟩ rfl rfl (Nat.le_of_ble_eq_true rfl) ?_
          exact gq_iret (pc := 106) rfl dX12_agree_106 ⟨rfl, rfl⟩
      · exact absurd (by decide) h_39
    | succ m ih =>
      intro i hi
      have hh : p_ok g (c + 1) V (p_hrs r i) := p_ok_weak (p_ok_hrs (c := c + (12 - i)) i (by rw [show c + (12 - i) + i = c + 12 by omega]; exact h)) (by omega)
      have hf := hF i
      have hg := p_ag_le r hV i
      refine gq_iload (pc := 35) dX12_agree_35 rfl ?_
      refine gq_bipush (pc := 37) dX12_agree_37 kb_12 ?_
      refine gq_ic_ge (pc := 39) 84 dX12_agree_39 (by decide) (fun h_39 => ?_) (fun h_39 => ?_)
      · exact absurd ((nI_leI (a := 12) (b := i) (by omega) (by omega)).mp h_39) (by omega)
      · refine gq_aload_n (pc := 42) dX12_agree_42 rfl ?_
        refine gq_rV0i (pc := 43) dX12_agree_43 cv_X12_216 sh_76 (m_agreeing hh) ⟨by decide, by decide⟩ rfl rfl (Nat.le_of_ble_eq_true rfl) ?_
        refine gq_istore (pc := 46) (l' := [(5, _), (4, _), (3, _), (2, _), (0, _), (1, _)]) dX12_agree_46 (by decide) rfl ?_
        refine gq_iload (pc := 48) dX12_agree_48 rfl ?_
        refine gq_iload_n (pc := 50) dX12_agree_50 rfl ?_
        refine gq_ic_le (pc := 51) 59 dX12_agree_51 (by decide) (fun h_51 => ?_) (fun h_51 => ?_)
        · refine gq_iload_n (pc := 59) dX12_agree_59 rfl ?_
          refine gq_istore_n (pc := 60) (l' := [(2, _), (5, _), (4, _), (3, _), (0, _), (1, _)]) dX12_agree_60 (by decide) rfl ?_
          refine gq_iload (pc := 61) dX12_agree_61 rfl ?_
          refine gq_iload_n (pc := 63) dX12_agree_63 rfl ?_
          refine gq_ic_le (pc := 64) 72 dX12_agree_64 (by decide) (fun h_64 => ?_) (fun h_64 => ?_)
          · refine gq_iload_n (pc := 72) dX12_agree_72 rfl ?_
            refine gq_istore_n (pc := 73) (l' := [(3, _), (2, _), (5, _), (4, _), (0, _), (1, _)]) dX12_agree_73 (by decide) rfl ?_
            refine gq_aload_n (pc := 74) dX12_agree_74 rfl ?_
            refine gq_rV0v (pc := 75) dX12_agree_75 cv_X12_188 sh_76 (k_oneHour hh.1) ⟨by decide, by decide⟩ rfl rfl (Nat.le_of_ble_eq_true rfl) ?_
            refine gq_tog (g := (ge_m (ge_row g 79 r) (p_hrs r (i + 1)) (p_gf f r (i + 1)))) (by rw [p_gf_s]; rfl) ?_
            refine gq_iinc (pc := 78) (l' := [(4, _), (3, _), (2, _), (5, _), (0, _), (1, _)]) dX12_agree_78 rfl (ge_inc1 i) (by decide) rfl ?_
            refine gq_goto (pc := 81) 35 dX12_agree_81 (by decide) ?_
            have q := ih (i + 1) (by omega)
            rw [p_af_n (F := p_ag r V) (b := 0) (n := i) (fun z => absurd ((nI_leI (a := p_ag r V i) (by omega) (by omega)).mp h_51) (by omega))] at q
            refine gq_sub [0, 1, 2, 4, 5] rfl ?_
            exact q
          · exact absurd h_51 h_64
        · refine gq_iload (pc := 54) dX12_agree_54 rfl ?_
          refine gq_goto (pc := 56) 60 dX12_agree_56 (by decide) ?_
          refine gq_istore_n (pc := 60) (l' := [(2, _), (5, _), (4, _), (3, _), (0, _), (1, _)]) dX12_agree_60 (by decide) rfl ?_
          refine gq_iload (pc := 61) dX12_agree_61 rfl ?_
          refine gq_iload_n (pc := 63) dX12_agree_63 rfl ?_
          refine gq_ic_le (pc := 64) 72 dX12_agree_64 (by decide) (fun h_64 => ?_) (fun h_64 => ?_)
          · exact absurd h_64 h_51
          · refine gq_iload (pc := 67) dX12_agree_67 rfl ?_
            refine gq_goto (pc := 69) 73 dX12_agree_69 (by decide) ?_
            refine gq_istore_n (pc := 73) (l' := [(3, _), (2, _), (5, _), (4, _), (0, _), (1, _)]) dX12_agree_73 (by decide) rfl ?_
            refine gq_aload_n (pc := 74) dX12_agree_74 rfl ?_
            refine gq_rV0v (pc := 75) dX12_agree_75 cv_X12_188 sh_76 (k_oneHour hh.1) ⟨by decide, by decide⟩ rfl rfl (Nat.le_of_ble_eq_true rfl) ?_
            refine gq_tog (g := (ge_m (ge_row g 79 r) (p_hrs r (i + 1)) (p_gf f r (i + 1)))) (by rw [p_gf_s]; rfl) ?_
            refine gq_iinc (pc := 78) (l' := [(4, _), (3, _), (2, _), (5, _), (0, _), (1, _)]) dX12_agree_78 rfl (ge_inc1 i) (by decide) rfl ?_
            refine gq_goto (pc := 81) 35 dX12_agree_81 (by decide) ?_
            have q := ih (i + 1) (by omega)
            rw [p_af_y (F := p_ag r V) (b := 0) (n := i) (by have := (nI_ltI (b := p_ag r V i) (by omega) (by omega)).mp (Int32.not_le.mp h_51); omega)] at q
            refine gq_sub [0, 1, 2, 4, 5] rfl ?_
            exact q
  refine gq_iload_n (pc := 0) dX12_agree_0 rfl ?_
  refine gq_iconst (pc := 1) dX12_agree_1 kc_0 ?_
  refine gq_iconst (pc := 2) dX12_agree_2 kc_1 ?_
  refine gq_rS3i (pc := 3) dX12_agree_3 cs_X12_41 (k_in _ _ _) ⟨by decide, by decide⟩ (Nat.le_of_ble_eq_true rfl) ?_
  refine gq_if_ne (pc := 6) 16 dX12_agree_6 (by decide) (fun h_6 => ?_) (fun h_6 => ?_)
  · refine gq_iconst (pc := 16) dX12_agree_16 kc_0 ?_
    refine gq_istore_n (pc := 17) (l' := [(2, _), (0, _), (1, _)]) dX12_agree_17 (by decide) rfl ?_
    refine gq_iconst (pc := 18) dX12_agree_18 kc_0 ?_
    refine gq_istore_n (pc := 19) (l' := [(3, _), (2, _), (0, _), (1, _)]) dX12_agree_19 (by decide) rfl ?_
    refine gq_aload_n (pc := 20) dX12_agree_20 rfl ?_
    refine gq_aload_n (pc := 21) dX12_agree_21 rfl ?_
    refine gq_getr (pc := 22) dX12_agree_22 fl_X12_7_12 sh_76 rfl ?_
    refine gq_aload_n (pc := 25) dX12_agree_25 rfl ?_
    refine gq_getr (pc := 26) dX12_agree_26 fl_X12_16_12 sh_76 rfl ?_
    refine gq_rV2v (pc := 29) dX12_agree_29 cv_X12_170 sh_76 (k_move_to sh_79 (by decide) (by decide)) ⟨by decide, by decide⟩ rfl rfl (Nat.le_of_ble_eq_true rfl) ?_
    refine gq_iconst (pc := 32) dX12_agree_32 kc_0 ?_
    refine gq_istore (pc := 33) (l' := [(4, _), (3, _), (2, _), (0, _), (1, _)]) dX12_agree_33 (by decide) rfl ?_
    refine gq_sub [0, 1, 2, 3, 4] rfl ?_
    exact key 12 0 (by omega)
  · exact absurd h_6 ha
set_option maxHeartbeats 400000 in
theorem c_agree_er {a : Int32} (h : p_in a 0 1 = 0) : ge_N X ge_SH YX11_agree 6 [.ref (ge_ad X.1 0), .int a] (ge_k g 25 r x hb) (some (.int (-1000000000 - 1))) (ge_k (ge_up g 75 1 (g 75 1 + 1)) 25 r x hb) := by
  refine gq_ofB (l := [(0, .ref (ge_ad X.1 0)), (1, .int a)]) (by decide) (Nat.le_of_ble_eq_true rfl) rfl ?_
  refine gq_iload_n (pc := 0) dX11_agree_0 rfl ?_
  refine gq_iconst (pc := 1) dX11_agree_1 kc_0 ?_
  refine gq_iconst (pc := 2) dX11_agree_2 kc_1 ?_
  refine gq_rS3i (pc := 3) dX11_agree_3 cs_X11_105 (c_outside _ _ _) ⟨by decide, by decide⟩ (Nat.le_of_ble_eq_true rfl) ?_
  refine gq_if_eq (pc := 6) 15 dX11_agree_6 (by decide) (fun h_6 => ?_) (fun h_6 => ?_)
  · exact absurd h (p_nt_0.mp h_6)
  · refine gq_aload_n (pc := 9) dX11_agree_9 rfl ?_
    refine gq_iconst (pc := 10) dX11_agree_10 kc_1 ?_
    refine gq_rV1i (pc := 11) dX11_agree_11 cv_X11_109 sh_0 (c_error kl_1 (by decide)) ⟨by decide, by decide⟩ rfl rfl (Nat.le_of_ble_eq_true rfl) ?_
    exact gq_iret (pc := 14) rfl dX11_agree_14 ⟨rfl, rfl⟩
set_option maxHeartbeats 400000 in
theorem m_agree_er {a : Int32} (h : p_in a 0 1 = 0) : ge_N X ge_SH YX12_agree 45 [.ref (ge_ad X.1 76), .int a] (ge_m g r f) (some (.int (-1000000001))) (ge_m (ge_up g 81 1 (g 81 1 + 1)) r f) := by
  refine gq_ofB (l := [(0, .ref (ge_ad X.1 76)), (1, .int a)]) (by decide) (Nat.le_of_ble_eq_true rfl) rfl ?_
  refine gq_iload_n (pc := 0) dX12_agree_0 rfl ?_
  refine gq_iconst (pc := 1) dX12_agree_1 kc_0 ?_
  refine gq_iconst (pc := 2) dX12_agree_2 kc_1 ?_
  refine gq_rS3i (pc := 3) dX12_agree_3 cs_X12_41 (k_in _ _ _) ⟨by decide, by decide⟩ (Nat.le_of_ble_eq_true rfl) ?_
  refine gq_if_ne (pc := 6) 16 dX12_agree_6 (by decide) (fun h_6 => ?_) (fun h_6 => ?_)
  · exact absurd h h_6
  · refine gq_aload_n (pc := 9) dX12_agree_9 rfl ?_
    refine gq_ldc (pc := 10) dX12_agree_10 kn_X12_53 ?_
    refine gq_rV1i (pc := 12) dX12_agree_12 cv_X12_54 sh_76 (k_errs (j := 1) (by decide) (by decide)) ⟨by decide, by decide⟩ rfl rfl (Nat.le_of_ble_eq_true rfl) ?_
    exact gq_iret (pc := 15) rfl dX12_agree_15 ⟨rfl, rfl⟩
end T10
