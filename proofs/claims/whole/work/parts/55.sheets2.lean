section P9
variable {X : ge_X} {g : ge_G} {r f x hb : Nat → Int32} {c : Nat}
theorem p_min2 {a b : Nat} (ha : a < 2 ^ 31) (hb : b < 2 ^ 31) : p_min (nI a) (nI b) = nI (min a b) := by
  unfold p_min
  by_cases h : b < a
  · rw [if_pos ((nI_ltI hb ha).mpr h), Nat.min_eq_right (Nat.le_of_lt h)]
  · rw [if_neg (fun z => h ((nI_ltI hb ha).mp z)), Nat.min_eq_left (by omega)]
/-- bases taken from a sheet, so far as it tells them -/
def p_bsr (h : Nat → Int32) : Nat → Nat → (Nat → Int32) → (Nat → Int32) × Nat
  | 0, i, r => (r, i)
  | m + 1, i, r => if p_in (h i) 0 9 = 0 then (r, i) else p_bsr h m (i + 1) (p_ue r i 2 (h i))
/-- so far as a sheet tells what is shown -/
def p_ju (h s : Nat → Int32) : Nat → Nat → Nat
  | 0, i => i
  | m + 1, i => if h i = s i then p_ju h s m (i + 1) else i
def p_jv (n E e : Nat) : Int32 := if e = E ∧ e = n then -1 else nI e
theorem p_ju_le (h s : Nat → Int32) : ∀ m i, i ≤ p_ju h s m i ∧ p_ju h s m i ≤ i + m := by
  intro m
  induction m with
  | zero => intro i; exact ⟨Nat.le_refl _, Nat.le_refl _⟩
  | succ m ih =>
    intro i
    unfold p_ju
    split
    · have := ih (i + 1); omega
    · omega
set_option maxHeartbeats 400000 in
theorem c_bases_no_0 (h : g 67 2 = 0) : ge_N X ge_SH YX11_bases 2 [.ref (ge_ad X.1 0), .int 0] (ge_k g 25 r x hb) (some (.int (-1000000000 - 2))) (ge_k (ge_up g 75 2 (g 75 2 + 1)) 25 r x hb) := by
  refine gq_ofB (l := [(0, .ref (ge_ad X.1 0)), (1, .int 0)]) (by decide) (Nat.le_of_ble_eq_true rfl) rfl ?_
  refine gq_iload_n (pc := 0) dX11_bases_0 rfl ?_
  refine gq_rS1i (pc := 1) dX11_bases_1 cs_X11_232 (c_noSheet _) ⟨by decide, by decide⟩ (Nat.le_of_ble_eq_true rfl) ?_
  refine gq_if_eq (pc := 4) 13 dX11_bases_4 (by decide) (fun h_4 => ?_) (fun h_4 => ?_)
  · refine gq_aload_n (pc := 13) dX11_bases_13 rfl ?_
    refine gq_getr (pc := 14) dX11_bases_14 fl_X11_89_11 sh_0 rfl ?_
    refine gq_iload_n (pc := 17) dX11_bases_17 rfl ?_
    refine gq_aald (pc := 18) dX11_bases_18 sh_66 rfl kl_0 rfl (by decide) ?_
    refine gq_astore_n (pc := 19) (l' := [(2, _), (0, _), (1, _)]) dX11_bases_19 (by decide) rfl ?_
    refine gq_aload_n (pc := 20) dX11_bases_20 rfl ?_
    refine kq_geto (pw := 25) (pc := 21) (by decide) dX11_bases_21 fl_X11_235_7 sh_67 rfl (by unfold ge_Z; omega) ?_
    refine gq_if_ne (pc := 24) 33 dX11_bases_24 (by decide) (fun h_24 => ?_) (fun h_24 => ?_)
    · exact absurd h h_24
    · refine gq_aload_n (pc := 27) dX11_bases_27 rfl ?_
      refine gq_iconst (pc := 28) dX11_bases_28 kc_2 ?_
      refine gq_rV1i (pc := 29) dX11_bases_29 cv_X11_109 sh_0 (c_error kl_2 (by decide)) ⟨by decide, by decide⟩ rfl rfl (Nat.le_of_ble_eq_true rfl) ?_
      exact gq_iret (pc := 32) rfl dX11_bases_32 ⟨rfl, rfl⟩
  · exact absurd (show p_nt (p_in 0 0 3) = 0 by decide) h_4
set_option maxHeartbeats 1000000 in
theorem c_bases_ok_0 {n E : Nat} (hn2 : n ≤ 40) (hE : E ≤ 8) (e2 : r 2 = nI E) (hb0 : ¬ g 67 2 = 0) (hn : g 67 1 = nI n) : ge_N X ge_SH YX11_bases 2 [.ref (ge_ad X.1 0), .int 0] (ge_k g 25 r x hb) (some (.int (nI (p_bsr (g 68) (min n E) 0 r).2))) (ge_k g 25 (p_bsr (g 68) (min n E) 0 r).1 x hb) := by
  have hm : p_min (g 67 1) (r 2) = nI (min n E) := by rw [hn, e2, p_min2 (by omega) (by omega)]
  refine gq_ofB (l := [(0, .ref (ge_ad X.1 0)), (1, .int 0)]) (by decide) (Nat.le_of_ble_eq_true rfl) rfl ?_
  have key : ∀ (m i : Nat) (r1 : Nat → Int32), i + m = min n E → r1 2 = nI E → p_bsr (g 68) m i r1 = p_bsr (g 68) (min n E) 0 r → ge_B X ge_SH YX11_bases 2 (fun v2 g2 => v2 = (some (.int (nI (p_bsr (g 68) (min n E) 0 r).2))) ∧ g2 = (ge_k g 25 (p_bsr (g 68) (min n E) 0 r).1 x hb)) 51 [(4, .int (nI i)), (0, .ref (ge_ad X.1 0)), (1, .int 0), (2, .ref (ge_ad X.1 67)), (3, .int (nI (min n E)))] [] (ge_k g 25 r1 x hb) := by
    intro m
    induction m with
    | zero =>
      intro i r1 hi e1 hR
      obtain rfl : i = min n E := hi
      refine gq_iload (pc := 51) dX11_bases_51 rfl ?_
      refine gq_iload_n (pc := 53) dX11_bases_53 rfl ?_
      refine gq_ic_ge (pc := 54) 99 dX11_bases_54 (by decide) (fun h_54 => ?_) (fun h_54 => ?_)
      · refine gq_iload_n (pc := 99) dX11_bases_99 rfl ?_
        exact gq_iret (pc := 100) rfl dX11_bases_100 ⟨by rw [← hR]; rfl, by rw [← hR]; rfl⟩
      · exact absurd (Int32.le_refl _) h_54
    | succ m ih =>
      intro i r1 hi e1 hR
      refine gq_iload (pc := 51) dX11_bases_51 rfl ?_
      refine gq_iload_n (pc := 53) dX11_bases_53 rfl ?_
      refine gq_ic_ge (pc := 54) 99 dX11_bases_54 (by decide) (fun h_54 => ?_) (fun h_54 => ?_)
      · exact absurd ((nI_leI (a := min n E) (b := i) (by omega) (by omega)).mp h_54) (by omega)
      · refine gq_aload_n (pc := 57) dX11_bases_57 rfl ?_
        refine gq_getr (pc := 58) dX11_bases_58 fl_X11_297_7 sh_67 rfl ?_
        refine gq_iload (pc := 61) dX11_bases_61 rfl ?_
        refine kq_aldo (pw := 25) (pc := 63) (by decide) dX11_bases_63 sh_68 (by decide) rfl (by first | decide | omega) (by decide) ?_
        refine gq_iconst (pc := 64) dX11_bases_64 kc_0 ?_
        refine gq_bipush (pc := 65) dX11_bases_65 kb_9 ?_
        refine gq_rS3i (pc := 67) dX11_bases_67 cs_X11_105 (c_outside _ _ _) ⟨by decide, by decide⟩ (Nat.le_of_ble_eq_true rfl) ?_
        refine gq_if_eq (pc := 70) 76 dX11_bases_70 (by decide) (fun h_70 => ?_) (fun h_70 => ?_)
        · refine gq_aload_n (pc := 76) dX11_bases_76 rfl ?_
          refine gq_getr (pc := 77) dX11_bases_77 fl_X11_60_11 sh_0 rfl ?_
          refine gq_getr (pc := 80) dX11_bases_80 fl_X11_135_10 sh_25 rfl ?_
          refine gq_iload (pc := 83) dX11_bases_83 rfl ?_
          refine gq_aload_n (pc := 85) dX11_bases_85 rfl ?_
          refine gq_getr (pc := 86) dX11_bases_86 fl_X11_297_7 sh_67 rfl ?_
          refine gq_iload (pc := 89) dX11_bases_89 rfl ?_
          refine kq_aldo (pw := 25) (pc := 91) (by decide) dX11_bases_91 sh_68 (by decide) rfl (by first | decide | omega) (by decide) ?_
          refine kq_ast4 (pw := 25) (pc := 92) (by decide) dX11_bases_92 rfl (by first | decide | omega) ?_
          refine gq_iinc (pc := 93) (l' := [(4, _), (0, _), (1, _), (2, _), (3, _)]) dX11_bases_93 rfl (ge_inc1 i) (by decide) rfl ?_
          refine gq_goto (pc := 96) 51 dX11_bases_96 (by decide) ?_
          refine gq_sub [0, 1, 2, 3, 4] rfl ?_
          exact ih (i + 1) _ (by omega) (by rw [p_lo_ue _ _ _ _ 2 (by omega)]; exact e1) (by rw [← hR]; exact (if_neg (p_nt_0.mp h_70)).symm)
        · have hR2 : p_bsr (g 68) (m + 1) i r1 = (r1, i) := if_pos (by by_cases q : p_in (g 68 i) 0 9 = 0; exact q; exact absurd (p_nt_0.mpr q) h_70)
          rw [hR2] at hR
          refine gq_iload (pc := 73) dX11_bases_73 rfl ?_
          exact gq_iret (pc := 75) rfl dX11_bases_75 ⟨by rw [← hR], by rw [← hR]⟩
  refine gq_iload_n (pc := 0) dX11_bases_0 rfl ?_
  refine gq_rS1i (pc := 1) dX11_bases_1 cs_X11_232 (c_noSheet _) ⟨by decide, by decide⟩ (Nat.le_of_ble_eq_true rfl) ?_
  refine gq_if_eq (pc := 4) 13 dX11_bases_4 (by decide) (fun h_4 => ?_) (fun h_4 => ?_)
  · refine gq_aload_n (pc := 13) dX11_bases_13 rfl ?_
    refine gq_getr (pc := 14) dX11_bases_14 fl_X11_89_11 sh_0 rfl ?_
    refine gq_iload_n (pc := 17) dX11_bases_17 rfl ?_
    refine gq_aald (pc := 18) dX11_bases_18 sh_66 rfl kl_0 rfl (by decide) ?_
    refine gq_astore_n (pc := 19) (l' := [(2, _), (0, _), (1, _)]) dX11_bases_19 (by decide) rfl ?_
    refine gq_aload_n (pc := 20) dX11_bases_20 rfl ?_
    refine kq_geto (pw := 25) (pc := 21) (by decide) dX11_bases_21 fl_X11_235_7 sh_67 rfl (by unfold ge_Z; omega) ?_
    refine gq_if_ne (pc := 24) 33 dX11_bases_24 (by decide) (fun h_24 => ?_) (fun h_24 => ?_)
    · refine gq_aload_n (pc := 33) dX11_bases_33 rfl ?_
      refine kq_geto (pw := 25) (pc := 34) (by decide) dX11_bases_34 fl_X11_182_7 sh_67 rfl (by unfold ge_Z; omega) ?_
      refine gq_aload_n (pc := 37) dX11_bases_37 rfl ?_
      refine gq_getr (pc := 38) dX11_bases_38 fl_X11_60_11 sh_0 rfl ?_
      refine kq_get11 (pw := 25) (pc := 41) (by decide) dX11_bases_41 fl_X11_119_10 ?_
      refine gq_rS2i (pc := 44) dX11_bases_44 cs_X11_312 (k_min _ _) ⟨by decide, by decide⟩ (Nat.le_of_ble_eq_true rfl) ?_
      rw [hm]
      refine gq_istore_n (pc := 47) (l' := [(3, _), (2, _), (0, _), (1, _)]) dX11_bases_47 (by decide) rfl ?_
      refine gq_iconst (pc := 48) dX11_bases_48 kc_0 ?_
      refine gq_istore (pc := 49) (l' := [(4, _), (3, _), (2, _), (0, _), (1, _)]) dX11_bases_49 (by decide) rfl ?_
      refine gq_sub [0, 3, 4, 2, 1] rfl ?_
      exact key (min n E) 0 r (by omega) e2 rfl
    · exact absurd h_24 hb0
  · exact absurd (show p_nt (p_in 0 0 3) = 0 by decide) h_4
set_option maxHeartbeats 400000 in
theorem c_bases_no_1 (h : g 69 2 = 0) : ge_N X ge_SH YX11_bases 2 [.ref (ge_ad X.1 0), .int 1] (ge_k g 25 r x hb) (some (.int (-1000000000 - 2))) (ge_k (ge_up g 75 2 (g 75 2 + 1)) 25 r x hb) := by
  refine gq_ofB (l := [(0, .ref (ge_ad X.1 0)), (1, .int 1)]) (by decide) (Nat.le_of_ble_eq_true rfl) rfl ?_
  refine gq_iload_n (pc := 0) dX11_bases_0 rfl ?_
  refine gq_rS1i (pc := 1) dX11_bases_1 cs_X11_232 (c_noSheet _) ⟨by decide, by decide⟩ (Nat.le_of_ble_eq_true rfl) ?_
  refine gq_if_eq (pc := 4) 13 dX11_bases_4 (by decide) (fun h_4 => ?_) (fun h_4 => ?_)
  · refine gq_aload_n (pc := 13) dX11_bases_13 rfl ?_
    refine gq_getr (pc := 14) dX11_bases_14 fl_X11_89_11 sh_0 rfl ?_
    refine gq_iload_n (pc := 17) dX11_bases_17 rfl ?_
    refine gq_aald (pc := 18) dX11_bases_18 sh_66 rfl kl_1 rfl (by decide) ?_
    refine gq_astore_n (pc := 19) (l' := [(2, _), (0, _), (1, _)]) dX11_bases_19 (by decide) rfl ?_
    refine gq_aload_n (pc := 20) dX11_bases_20 rfl ?_
    refine kq_geto (pw := 25) (pc := 21) (by decide) dX11_bases_21 fl_X11_235_7 sh_69 rfl (by unfold ge_Z; omega) ?_
    refine gq_if_ne (pc := 24) 33 dX11_bases_24 (by decide) (fun h_24 => ?_) (fun h_24 => ?_)
    · exact absurd h h_24
    · refine gq_aload_n (pc := 27) dX11_bases_27 rfl ?_
      refine gq_iconst (pc := 28) dX11_bases_28 kc_2 ?_
      refine gq_rV1i (pc := 29) dX11_bases_29 cv_X11_109 sh_0 (c_error kl_2 (by decide)) ⟨by decide, by decide⟩ rfl rfl (Nat.le_of_ble_eq_true rfl) ?_
      exact gq_iret (pc := 32) rfl dX11_bases_32 ⟨rfl, rfl⟩
  · exact absurd (show p_nt (p_in 1 0 3) = 0 by decide) h_4
set_option maxHeartbeats 1000000 in
theorem c_bases_ok_1 {n E : Nat} (hn2 : n ≤ 40) (hE : E ≤ 8) (e2 : r 2 = nI E) (hb0 : ¬ g 69 2 = 0) (hn : g 69 1 = nI n) : ge_N X ge_SH YX11_bases 2 [.ref (ge_ad X.1 0), .int 1] (ge_k g 25 r x hb) (some (.int (nI (p_bsr (g 70) (min n E) 0 r).2))) (ge_k g 25 (p_bsr (g 70) (min n E) 0 r).1 x hb) := by
  have hm : p_min (g 69 1) (r 2) = nI (min n E) := by rw [hn, e2, p_min2 (by omega) (by omega)]
  refine gq_ofB (l := [(0, .ref (ge_ad X.1 0)), (1, .int 1)]) (by decide) (Nat.le_of_ble_eq_true rfl) rfl ?_
  have key : ∀ (m i : Nat) (r1 : Nat → Int32), i + m = min n E → r1 2 = nI E → p_bsr (g 70) m i r1 = p_bsr (g 70) (min n E) 0 r → ge_B X ge_SH YX11_bases 2 (fun v2 g2 => v2 = (some (.int (nI (p_bsr (g 70) (min n E) 0 r).2))) ∧ g2 = (ge_k g 25 (p_bsr (g 70) (min n E) 0 r).1 x hb)) 51 [(4, .int (nI i)), (0, .ref (ge_ad X.1 0)), (1, .int 1), (2, .ref (ge_ad X.1 69)), (3, .int (nI (min n E)))] [] (ge_k g 25 r1 x hb) := by
    intro m
    induction m with
    | zero =>
      intro i r1 hi e1 hR
      obtain rfl : i = min n E := hi
      refine gq_iload (pc := 51) dX11_bases_51 rfl ?_
      refine gq_iload_n (pc := 53) dX11_bases_53 rfl ?_
      refine gq_ic_ge (pc := 54) 99 dX11_bases_54 (by decide) (fun h_54 => ?_) (fun h_54 => ?_)
      · refine gq_iload_n (pc := 99) dX11_bases_99 rfl ?_
        exact gq_iret (pc := 100) rfl dX11_bases_100 ⟨by rw [← hR]; rfl, by rw [← hR]; rfl⟩
      · exact absurd (Int32.le_refl _) h_54
    | succ m ih =>
      intro i r1 hi e1 hR
      refine gq_iload (pc := 51) dX11_bases_51 rfl ?_
      refine gq_iload_n (pc := 53) dX11_bases_53 rfl ?_
      refine gq_ic_ge (pc := 54) 99 dX11_bases_54 (by decide) (fun h_54 => ?_) (fun h_54 => ?_)
      · exact absurd ((nI_leI (a := min n E) (b := i) (by omega) (by omega)).mp h_54) (by omega)
      · refine gq_aload_n (pc := 57) dX11_bases_57 rfl ?_
        refine gq_getr (pc := 58) dX11_bases_58 fl_X11_297_7 sh_69 rfl ?_
        refine gq_iload (pc := 61) dX11_bases_61 rfl ?_
        refine kq_aldo (pw := 25) (pc := 63) (by decide) dX11_bases_63 sh_70 (by decide) rfl (by first | decide | omega) (by decide) ?_
        refine gq_iconst (pc := 64) dX11_bases_64 kc_0 ?_
        refine gq_bipush (pc := 65) dX11_bases_65 kb_9 ?_
        refine gq_rS3i (pc := 67) dX11_bases_67 cs_X11_105 (c_outside _ _ _) ⟨by decide, by decide⟩ (Nat.le_of_ble_eq_true rfl) ?_
        refine gq_if_eq (pc := 70) 76 dX11_bases_70 (by decide) (fun h_70 => ?_) (fun h_70 => ?_)
        · refine gq_aload_n (pc := 76) dX11_bases_76 rfl ?_
          refine gq_getr (pc := 77) dX11_bases_77 fl_X11_60_11 sh_0 rfl ?_
          refine gq_getr (pc := 80) dX11_bases_80 fl_X11_135_10 sh_25 rfl ?_
          refine gq_iload (pc := 83) dX11_bases_83 rfl ?_
          refine gq_aload_n (pc := 85) dX11_bases_85 rfl ?_
          refine gq_getr (pc := 86) dX11_bases_86 fl_X11_297_7 sh_69 rfl ?_
          refine gq_iload (pc := 89) dX11_bases_89 rfl ?_
          refine kq_aldo (pw := 25) (pc := 91) (by decide) dX11_bases_91 sh_70 (by decide) rfl (by first | decide | omega) (by decide) ?_
          refine kq_ast4 (pw := 25) (pc := 92) (by decide) dX11_bases_92 rfl (by first | decide | omega) ?_
          refine gq_iinc (pc := 93) (l' := [(4, _), (0, _), (1, _), (2, _), (3, _)]) dX11_bases_93 rfl (ge_inc1 i) (by decide) rfl ?_
          refine gq_goto (pc := 96) 51 dX11_bases_96 (by decide) ?_
          refine gq_sub [0, 1, 2, 3, 4] rfl ?_
          exact ih (i + 1) _ (by omega) (by rw [p_lo_ue _ _ _ _ 2 (by omega)]; exact e1) (by rw [← hR]; exact (if_neg (p_nt_0.mp h_70)).symm)
        · have hR2 : p_bsr (g 70) (m + 1) i r1 = (r1, i) := if_pos (by by_cases q : p_in (g 70 i) 0 9 = 0; exact q; exact absurd (p_nt_0.mpr q) h_70)
          rw [hR2] at hR
          refine gq_iload (pc := 73) dX11_bases_73 rfl ?_
          exact gq_iret (pc := 75) rfl dX11_bases_75 ⟨by rw [← hR], by rw [← hR]⟩
  refine gq_iload_n (pc := 0) dX11_bases_0 rfl ?_
  refine gq_rS1i (pc := 1) dX11_bases_1 cs_X11_232 (c_noSheet _) ⟨by decide, by decide⟩ (Nat.le_of_ble_eq_true rfl) ?_
  refine gq_if_eq (pc := 4) 13 dX11_bases_4 (by decide) (fun h_4 => ?_) (fun h_4 => ?_)
  · refine gq_aload_n (pc := 13) dX11_bases_13 rfl ?_
    refine gq_getr (pc := 14) dX11_bases_14 fl_X11_89_11 sh_0 rfl ?_
    refine gq_iload_n (pc := 17) dX11_bases_17 rfl ?_
    refine gq_aald (pc := 18) dX11_bases_18 sh_66 rfl kl_1 rfl (by decide) ?_
    refine gq_astore_n (pc := 19) (l' := [(2, _), (0, _), (1, _)]) dX11_bases_19 (by decide) rfl ?_
    refine gq_aload_n (pc := 20) dX11_bases_20 rfl ?_
    refine kq_geto (pw := 25) (pc := 21) (by decide) dX11_bases_21 fl_X11_235_7 sh_69 rfl (by unfold ge_Z; omega) ?_
    refine gq_if_ne (pc := 24) 33 dX11_bases_24 (by decide) (fun h_24 => ?_) (fun h_24 => ?_)
    · refine gq_aload_n (pc := 33) dX11_bases_33 rfl ?_
      refine kq_geto (pw := 25) (pc := 34) (by decide) dX11_bases_34 fl_X11_182_7 sh_69 rfl (by unfold ge_Z; omega) ?_
      refine gq_aload_n (pc := 37) dX11_bases_37 rfl ?_
      refine gq_getr (pc := 38) dX11_bases_38 fl_X11_60_11 sh_0 rfl ?_
      refine kq_get11 (pw := 25) (pc := 41) (by decide) dX11_bases_41 fl_X11_119_10 ?_
      refine gq_rS2i (pc := 44) dX11_bases_44 cs_X11_312 (k_min _ _) ⟨by decide, by decide⟩ (Nat.le_of_ble_eq_true rfl) ?_
      rw [hm]
      refine gq_istore_n (pc := 47) (l' := [(3, _), (2, _), (0, _), (1, _)]) dX11_bases_47 (by decide) rfl ?_
      refine gq_iconst (pc := 48) dX11_bases_48 kc_0 ?_
      refine gq_istore (pc := 49) (l' := [(4, _), (3, _), (2, _), (0, _), (1, _)]) dX11_bases_49 (by decide) rfl ?_
      refine gq_sub [0, 3, 4, 2, 1] rfl ?_
      exact key (min n E) 0 r (by omega) e2 rfl
    · exact absurd h_24 hb0
  · exact absurd (show p_nt (p_in 1 0 3) = 0 by decide) h_4
set_option maxHeartbeats 400000 in
theorem c_bases_no_2 (h : g 71 2 = 0) : ge_N X ge_SH YX11_bases 2 [.ref (ge_ad X.1 0), .int 2] (ge_k g 25 r x hb) (some (.int (-1000000000 - 2))) (ge_k (ge_up g 75 2 (g 75 2 + 1)) 25 r x hb) := by
  refine gq_ofB (l := [(0, .ref (ge_ad X.1 0)), (1, .int 2)]) (by decide) (Nat.le_of_ble_eq_true rfl) rfl ?_
  refine gq_iload_n (pc := 0) dX11_bases_0 rfl ?_
  refine gq_rS1i (pc := 1) dX11_bases_1 cs_X11_232 (c_noSheet _) ⟨by decide, by decide⟩ (Nat.le_of_ble_eq_true rfl) ?_
  refine gq_if_eq (pc := 4) 13 dX11_bases_4 (by decide) (fun h_4 => ?_) (fun h_4 => ?_)
  · refine gq_aload_n (pc := 13) dX11_bases_13 rfl ?_
    refine gq_getr (pc := 14) dX11_bases_14 fl_X11_89_11 sh_0 rfl ?_
    refine gq_iload_n (pc := 17) dX11_bases_17 rfl ?_
    refine gq_aald (pc := 18) dX11_bases_18 sh_66 rfl kl_2 rfl (by decide) ?_
    refine gq_astore_n (pc := 19) (l' := [(2, _), (0, _), (1, _)]) dX11_bases_19 (by decide) rfl ?_
    refine gq_aload_n (pc := 20) dX11_bases_20 rfl ?_
    refine kq_geto (pw := 25) (pc := 21) (by decide) dX11_bases_21 fl_X11_235_7 sh_71 rfl (by unfold ge_Z; omega) ?_
    refine gq_if_ne (pc := 24) 33 dX11_bases_24 (by decide) (fun h_24 => ?_) (fun h_24 => ?_)
    · exact absurd h h_24
    · refine gq_aload_n (pc := 27) dX11_bases_27 rfl ?_
      refine gq_iconst (pc := 28) dX11_bases_28 kc_2 ?_
      refine gq_rV1i (pc := 29) dX11_bases_29 cv_X11_109 sh_0 (c_error kl_2 (by decide)) ⟨by decide, by decide⟩ rfl rfl (Nat.le_of_ble_eq_true rfl) ?_
      exact gq_iret (pc := 32) rfl dX11_bases_32 ⟨rfl, rfl⟩
  · exact absurd (show p_nt (p_in 2 0 3) = 0 by decide) h_4
set_option maxHeartbeats 1000000 in
theorem c_bases_ok_2 {n E : Nat} (hn2 : n ≤ 40) (hE : E ≤ 8) (e2 : r 2 = nI E) (hb0 : ¬ g 71 2 = 0) (hn : g 71 1 = nI n) : ge_N X ge_SH YX11_bases 2 [.ref (ge_ad X.1 0), .int 2] (ge_k g 25 r x hb) (some (.int (nI (p_bsr (g 72) (min n E) 0 r).2))) (ge_k g 25 (p_bsr (g 72) (min n E) 0 r).1 x hb) := by
  have hm : p_min (g 71 1) (r 2) = nI (min n E) := by rw [hn, e2, p_min2 (by omega) (by omega)]
  refine gq_ofB (l := [(0, .ref (ge_ad X.1 0)), (1, .int 2)]) (by decide) (Nat.le_of_ble_eq_true rfl) rfl ?_
  have key : ∀ (m i : Nat) (r1 : Nat → Int32), i + m = min n E → r1 2 = nI E → p_bsr (g 72) m i r1 = p_bsr (g 72) (min n E) 0 r → ge_B X ge_SH YX11_bases 2 (fun v2 g2 => v2 = (some (.int (nI (p_bsr (g 72) (min n E) 0 r).2))) ∧ g2 = (ge_k g 25 (p_bsr (g 72) (min n E) 0 r).1 x hb)) 51 [(4, .int (nI i)), (0, .ref (ge_ad X.1 0)), (1, .int 2), (2, .ref (ge_ad X.1 71)), (3, .int (nI (min n E)))] [] (ge_k g 25 r1 x hb) := by
    intro m
    induction m with
    | zero =>
      intro i r1 hi e1 hR
      obtain rfl : i = min n E := hi
      refine gq_iload (pc := 51) dX11_bases_51 rfl ?_
      refine gq_iload_n (pc := 53) dX11_bases_53 rfl ?_
      refine gq_ic_ge (pc := 54) 99 dX11_bases_54 (by decide) (fun h_54 => ?_) (fun h_54 => ?_)
      · refine gq_iload_n (pc := 99) dX11_bases_99 rfl ?_
        exact gq_iret (pc := 100) rfl dX11_bases_100 ⟨by rw [← hR]; rfl, by rw [← hR]; rfl⟩
      · exact absurd (Int32.le_refl _) h_54
    | succ m ih =>
      intro i r1 hi e1 hR
      refine gq_iload (pc := 51) dX11_bases_51 rfl ?_
      refine gq_iload_n (pc := 53) dX11_bases_53 rfl ?_
      refine gq_ic_ge (pc := 54) 99 dX11_bases_54 (by decide) (fun h_54 => ?_) (fun h_54 => ?_)
      · exact absurd ((nI_leI (a := min n E) (b := i) (by omega) (by omega)).mp h_54) (by omega)
      · refine gq_aload_n (pc := 57) dX11_bases_57 rfl ?_
        refine gq_getr (pc := 58) dX11_bases_58 fl_X11_297_7 sh_71 rfl ?_
        refine gq_iload (pc := 61) dX11_bases_61 rfl ?_
        refine kq_aldo (pw := 25) (pc := 63) (by decide) dX11_bases_63 sh_72 (by decide) rfl (by first | decide | omega) (by decide) ?_
        refine gq_iconst (pc := 64) dX11_bases_64 kc_0 ?_
        refine gq_bipush (pc := 65) dX11_bases_65 kb_9 ?_
        refine gq_rS3i (pc := 67) dX11_bases_67 cs_X11_105 (c_outside _ _ _) ⟨by decide, by decide⟩ (Nat.le_of_ble_eq_true rfl) ?_
        refine gq_if_eq (pc := 70) 76 dX11_bases_70 (by decide) (fun h_70 => ?_) (fun h_70 => ?_)
        · refine gq_aload_n (pc := 76) dX11_bases_76 rfl ?_
          refine gq_getr (pc := 77) dX11_bases_77 fl_X11_60_11 sh_0 rfl ?_
          refine gq_getr (pc := 80) dX11_bases_80 fl_X11_135_10 sh_25 rfl ?_
          refine gq_iload (pc := 83) dX11_bases_83 rfl ?_
          refine gq_aload_n (pc := 85) dX11_bases_85 rfl ?_
          refine gq_getr (pc := 86) dX11_bases_86 fl_X11_297_7 sh_71 rfl ?_
          refine gq_iload (pc := 89) dX11_bases_89 rfl ?_
          refine kq_aldo (pw := 25) (pc := 91) (by decide) dX11_bases_91 sh_72 (by decide) rfl (by first | decide | omega) (by decide) ?_
          refine kq_ast4 (pw := 25) (pc := 92) (by decide) dX11_bases_92 rfl (by first | decide | omega) ?_
          refine gq_iinc (pc := 93) (l' := [(4, _), (0, _), (1, _), (2, _), (3, _)]) dX11_bases_93 rfl (ge_inc1 i) (by decide) rfl ?_
          refine gq_goto (pc := 96) 51 dX11_bases_96 (by decide) ?_
          refine gq_sub [0, 1, 2, 3, 4] rfl ?_
          exact ih (i + 1) _ (by omega) (by rw [p_lo_ue _ _ _ _ 2 (by omega)]; exact e1) (by rw [← hR]; exact (if_neg (p_nt_0.mp h_70)).symm)
        · have hR2 : p_bsr (g 72) (m + 1) i r1 = (r1, i) := if_pos (by by_cases q : p_in (g 72 i) 0 9 = 0; exact q; exact absurd (p_nt_0.mpr q) h_70)
          rw [hR2] at hR
          refine gq_iload (pc := 73) dX11_bases_73 rfl ?_
          exact gq_iret (pc := 75) rfl dX11_bases_75 ⟨by rw [← hR], by rw [← hR]⟩
  refine gq_iload_n (pc := 0) dX11_bases_0 rfl ?_
  refine gq_rS1i (pc := 1) dX11_bases_1 cs_X11_232 (c_noSheet _) ⟨by decide, by decide⟩ (Nat.le_of_ble_eq_true rfl) ?_
  refine gq_if_eq (pc := 4) 13 dX11_bases_4 (by decide) (fun h_4 => ?_) (fun h_4 => ?_)
  · refine gq_aload_n (pc := 13) dX11_bases_13 rfl ?_
    refine gq_getr (pc := 14) dX11_bases_14 fl_X11_89_11 sh_0 rfl ?_
    refine gq_iload_n (pc := 17) dX11_bases_17 rfl ?_
    refine gq_aald (pc := 18) dX11_bases_18 sh_66 rfl kl_2 rfl (by decide) ?_
    refine gq_astore_n (pc := 19) (l' := [(2, _), (0, _), (1, _)]) dX11_bases_19 (by decide) rfl ?_
    refine gq_aload_n (pc := 20) dX11_bases_20 rfl ?_
    refine kq_geto (pw := 25) (pc := 21) (by decide) dX11_bases_21 fl_X11_235_7 sh_71 rfl (by unfold ge_Z; omega) ?_
    refine gq_if_ne (pc := 24) 33 dX11_bases_24 (by decide) (fun h_24 => ?_) (fun h_24 => ?_)
    · refine gq_aload_n (pc := 33) dX11_bases_33 rfl ?_
      refine kq_geto (pw := 25) (pc := 34) (by decide) dX11_bases_34 fl_X11_182_7 sh_71 rfl (by unfold ge_Z; omega) ?_
      refine gq_aload_n (pc := 37) dX11_bases_37 rfl ?_
      refine gq_getr (pc := 38) dX11_bases_38 fl_X11_60_11 sh_0 rfl ?_
      refine kq_get11 (pw := 25) (pc := 41) (by decide) dX11_bases_41 fl_X11_119_10 ?_
      refine gq_rS2i (pc := 44) dX11_bases_44 cs_X11_312 (k_min _ _) ⟨by decide, by decide⟩ (Nat.le_of_ble_eq_true rfl) ?_
      rw [hm]
      refine gq_istore_n (pc := 47) (l' := [(3, _), (2, _), (0, _), (1, _)]) dX11_bases_47 (by decide) rfl ?_
      refine gq_iconst (pc := 48) dX11_bases_48 kc_0 ?_
      refine gq_istore (pc := 49) (l' := [(4, _), (3, _), (2, _), (0, _), (1, _)]) dX11_bases_49 (by decide) rfl ?_
      refine gq_sub [0, 3, 4, 2, 1] rfl ?_
      exact key (min n E) 0 r (by omega) e2 rfl
    · exact absurd h_24 hb0
  · exact absurd (show p_nt (p_in 2 0 3) = 0 by decide) h_4
set_option maxHeartbeats 400000 in
theorem c_bases_no_3 (h : g 73 2 = 0) : ge_N X ge_SH YX11_bases 2 [.ref (ge_ad X.1 0), .int 3] (ge_k g 25 r x hb) (some (.int (-1000000000 - 2))) (ge_k (ge_up g 75 2 (g 75 2 + 1)) 25 r x hb) := by
  refine gq_ofB (l := [(0, .ref (ge_ad X.1 0)), (1, .int 3)]) (by decide) (Nat.le_of_ble_eq_true rfl) rfl ?_
  refine gq_iload_n (pc := 0) dX11_bases_0 rfl ?_
  refine gq_rS1i (pc := 1) dX11_bases_1 cs_X11_232 (c_noSheet _) ⟨by decide, by decide⟩ (Nat.le_of_ble_eq_true rfl) ?_
  refine gq_if_eq (pc := 4) 13 dX11_bases_4 (by decide) (fun h_4 => ?_) (fun h_4 => ?_)
  · refine gq_aload_n (pc := 13) dX11_bases_13 rfl ?_
    refine gq_getr (pc := 14) dX11_bases_14 fl_X11_89_11 sh_0 rfl ?_
    refine gq_iload_n (pc := 17) dX11_bases_17 rfl ?_
    refine gq_aald (pc := 18) dX11_bases_18 sh_66 rfl kl_3 rfl (by decide) ?_
    refine gq_astore_n (pc := 19) (l' := [(2, _), (0, _), (1, _)]) dX11_bases_19 (by decide) rfl ?_
    refine gq_aload_n (pc := 20) dX11_bases_20 rfl ?_
    refine kq_geto (pw := 25) (pc := 21) (by decide) dX11_bases_21 fl_X11_235_7 sh_73 rfl (by unfold ge_Z; omega) ?_
    refine gq_if_ne (pc := 24) 33 dX11_bases_24 (by decide) (fun h_24 => ?_) (fun h_24 => ?_)
    · exact absurd h h_24
    · refine gq_aload_n (pc := 27) dX11_bases_27 rfl ?_
      refine gq_iconst (pc := 28) dX11_bases_28 kc_2 ?_
      refine gq_rV1i (pc := 29) dX11_bases_29 cv_X11_109 sh_0 (c_error kl_2 (by decide)) ⟨by decide, by decide⟩ rfl rfl (Nat.le_of_ble_eq_true rfl) ?_
      exact gq_iret (pc := 32) rfl dX11_bases_32 ⟨rfl, rfl⟩
  · exact absurd (show p_nt (p_in 3 0 3) = 0 by decide) h_4
set_option maxHeartbeats 1000000 in
theorem c_bases_ok_3 {n E : Nat} (hn2 : n ≤ 40) (hE : E ≤ 8) (e2 : r 2 = nI E) (hb0 : ¬ g 73 2 = 0) (hn : g 73 1 = nI n) : ge_N X ge_SH YX11_bases 2 [.ref (ge_ad X.1 0), .int 3] (ge_k g 25 r x hb) (some (.int (nI (p_bsr (g 74) (min n E) 0 r).2))) (ge_k g 25 (p_bsr (g 74) (min n E) 0 r).1 x hb) := by
  have hm : p_min (g 73 1) (r 2) = nI (min n E) := by rw [hn, e2, p_min2 (by omega) (by omega)]
  refine gq_ofB (l := [(0, .ref (ge_ad X.1 0)), (1, .int 3)]) (by decide) (Nat.le_of_ble_eq_true rfl) rfl ?_
  have key : ∀ (m i : Nat) (r1 : Nat → Int32), i + m = min n E → r1 2 = nI E → p_bsr (g 74) m i r1 = p_bsr (g 74) (min n E) 0 r → ge_B X ge_SH YX11_bases 2 (fun v2 g2 => v2 = (some (.int (nI (p_bsr (g 74) (min n E) 0 r).2))) ∧ g2 = (ge_k g 25 (p_bsr (g 74) (min n E) 0 r).1 x hb)) 51 [(4, .int (nI i)), (0, .ref (ge_ad X.1 0)), (1, .int 3), (2, .ref (ge_ad X.1 73)), (3, .int (nI (min n E)))] [] (ge_k g 25 r1 x hb) := by
    intro m
    induction m with
    | zero =>
      intro i r1 hi e1 hR
      obtain rfl : i = min n E := hi
      refine gq_iload (pc := 51) dX11_bases_51 rfl ?_
      refine gq_iload_n (pc := 53) dX11_bases_53 rfl ?_
      refine gq_ic_ge (pc := 54) 99 dX11_bases_54 (by decide) (fun h_54 => ?_) (fun h_54 => ?_)
      · refine gq_iload_n (pc := 99) dX11_bases_99 rfl ?_
        exact gq_iret (pc := 100) rfl dX11_bases_100 ⟨by rw [← hR]; rfl, by rw [← hR]; rfl⟩
      · exact absurd (Int32.le_refl _) h_54
    | succ m ih =>
      intro i r1 hi e1 hR
      refine gq_iload (pc := 51) dX11_bases_51 rfl ?_
      refine gq_iload_n (pc := 53) dX11_bases_53 rfl ?_
      refine gq_ic_ge (pc := 54) 99 dX11_bases_54 (by decide) (fun h_54 => ?_) (fun h_54 => ?_)
      · exact absurd ((nI_leI (a := min n E) (b := i) (by omega) (by omega)).mp h_54) (by omega)
      · refine gq_aload_n (pc := 57) dX11_bases_57 rfl ?_
        refine gq_getr (pc := 58) dX11_bases_58 fl_X11_297_7 sh_73 rfl ?_
        refine gq_iload (pc := 61) dX11_bases_61 rfl ?_
        refine kq_aldo (pw := 25) (pc := 63) (by decide) dX11_bases_63 sh_74 (by decide) rfl (by first | decide | omega) (by decide) ?_
        refine gq_iconst (pc := 64) dX11_bases_64 kc_0 ?_
        refine gq_bipush (pc := 65) dX11_bases_65 kb_9 ?_
        refine gq_rS3i (pc := 67) dX11_bases_67 cs_X11_105 (c_outside _ _ _) ⟨by decide, by decide⟩ (Nat.le_of_ble_eq_true rfl) ?_
        refine gq_if_eq (pc := 70) 76 dX11_bases_70 (by decide) (fun h_70 => ?_) (fun h_70 => ?_)
        · refine gq_aload_n (pc := 76) dX11_bases_76 rfl ?_
          refine gq_getr (pc := 77) dX11_bases_77 fl_X11_60_11 sh_0 rfl ?_
          refine gq_getr (pc := 80) dX11_bases_80 fl_X11_135_10 sh_25 rfl ?_
          refine gq_iload (pc := 83) dX11_bases_83 rfl ?_
          refine gq_aload_n (pc := 85) dX11_bases_85 rfl ?_
          refine gq_getr (pc := 86) dX11_bases_86 fl_X11_297_7 sh_73 rfl ?_
          refine gq_iload (pc := 89) dX11_bases_89 rfl ?_
          refine kq_aldo (pw := 25) (pc := 91) (by decide) dX11_bases_91 sh_74 (by decide) rfl (by first | decide | omega) (by decide) ?_
          refine kq_ast4 (pw := 25) (pc := 92) (by decide) dX11_bases_92 rfl (by first | decide | omega) ?_
          refine gq_iinc (pc := 93) (l' := [(4, _), (0, _), (1, _), (2, _), (3, _)]) dX11_bases_93 rfl (ge_inc1 i) (by decide) rfl ?_
          refine gq_goto (pc := 96) 51 dX11_bases_96 (by decide) ?_
          refine gq_sub [0, 1, 2, 3, 4] rfl ?_
          exact ih (i + 1) _ (by omega) (by rw [p_lo_ue _ _ _ _ 2 (by omega)]; exact e1) (by rw [← hR]; exact (if_neg (p_nt_0.mp h_70)).symm)
        · have hR2 : p_bsr (g 74) (m + 1) i r1 = (r1, i) := if_pos (by by_cases q : p_in (g 74 i) 0 9 = 0; exact q; exact absurd (p_nt_0.mpr q) h_70)
          rw [hR2] at hR
          refine gq_iload (pc := 73) dX11_bases_73 rfl ?_
          exact gq_iret (pc := 75) rfl dX11_bases_75 ⟨by rw [← hR], by rw [← hR]⟩
  refine gq_iload_n (pc := 0) dX11_bases_0 rfl ?_
  refine gq_rS1i (pc := 1) dX11_bases_1 cs_X11_232 (c_noSheet _) ⟨by decide, by decide⟩ (Nat.le_of_ble_eq_true rfl) ?_
  refine gq_if_eq (pc := 4) 13 dX11_bases_4 (by decide) (fun h_4 => ?_) (fun h_4 => ?_)
  · refine gq_aload_n (pc := 13) dX11_bases_13 rfl ?_
    refine gq_getr (pc := 14) dX11_bases_14 fl_X11_89_11 sh_0 rfl ?_
    refine gq_iload_n (pc := 17) dX11_bases_17 rfl ?_
    refine gq_aald (pc := 18) dX11_bases_18 sh_66 rfl kl_3 rfl (by decide) ?_
    refine gq_astore_n (pc := 19) (l' := [(2, _), (0, _), (1, _)]) dX11_bases_19 (by decide) rfl ?_
    refine gq_aload_n (pc := 20) dX11_bases_20 rfl ?_
    refine kq_geto (pw := 25) (pc := 21) (by decide) dX11_bases_21 fl_X11_235_7 sh_73 rfl (by unfold ge_Z; omega) ?_
    refine gq_if_ne (pc := 24) 33 dX11_bases_24 (by decide) (fun h_24 => ?_) (fun h_24 => ?_)
    · refine gq_aload_n (pc := 33) dX11_bases_33 rfl ?_
      refine kq_geto (pw := 25) (pc := 34) (by decide) dX11_bases_34 fl_X11_182_7 sh_73 rfl (by unfold ge_Z; omega) ?_
      refine gq_aload_n (pc := 37) dX11_bases_37 rfl ?_
      refine gq_getr (pc := 38) dX11_bases_38 fl_X11_60_11 sh_0 rfl ?_
      refine kq_get11 (pw := 25) (pc := 41) (by decide) dX11_bases_41 fl_X11_119_10 ?_
      refine gq_rS2i (pc := 44) dX11_bases_44 cs_X11_312 (k_min _ _) ⟨by decide, by decide⟩ (Nat.le_of_ble_eq_true rfl) ?_
      rw [hm]
      refine gq_istore_n (pc := 47) (l' := [(3, _), (2, _), (0, _), (1, _)]) dX11_bases_47 (by decide) rfl ?_
      refine gq_iconst (pc := 48) dX11_bases_48 kc_0 ?_
      refine gq_istore (pc := 49) (l' := [(4, _), (3, _), (2, _), (0, _), (1, _)]) dX11_bases_49 (by decide) rfl ?_
      refine gq_sub [0, 3, 4, 2, 1] rfl ?_
      exact key (min n E) 0 r (by omega) e2 rfl
    · exact absurd h_24 hb0
  · exact absurd (show p_nt (p_in 3 0 3) = 0 by decide) h_4
set_option maxHeartbeats 400000 in
theorem c_bases_er {s : Int32} (h : p_in s 0 3 = 0) : ge_N X ge_SH YX11_bases 2 [.ref (ge_ad X.1 0), .int s] (ge_k g 25 r x hb) (some (.int (-1000000000 - 1))) (ge_k (ge_up g 75 1 (g 75 1 + 1)) 25 r x hb) := by
  refine gq_ofB (l := [(0, .ref (ge_ad X.1 0)), (1, .int s)]) (by decide) (Nat.le_of_ble_eq_true rfl) rfl ?_
  refine gq_iload_n (pc := 0) dX11_bases_0 rfl ?_
  refine gq_rS1i (pc := 1) dX11_bases_1 cs_X11_232 (c_noSheet _) ⟨by decide, by decide⟩ (Nat.le_of_ble_eq_true rfl) ?_
  refine gq_if_eq (pc := 4) 13 dX11_bases_4 (by decide) (fun h_4 => ?_) (fun h_4 => ?_)
  · exact absurd h (p_nt_0.mp h_4)
  · refine gq_aload_n (pc := 7) dX11_bases_7 rfl ?_
    refine gq_iconst (pc := 8) dX11_bases_8 kc_1 ?_
    refine gq_rV1i (pc := 9) dX11_bases_9 cv_X11_109 sh_0 (c_error kl_1 (by decide)) ⟨by decide, by decide⟩ rfl rfl (Nat.le_of_ble_eq_true rfl) ?_
    exact gq_iret (pc := 12) rfl dX11_bases_12 ⟨rfl, rfl⟩
set_option maxHeartbeats 400000 in
theorem m_bases_er {s : Int32} (h : p_in s 0 3 = 0) : ge_N X ge_SH YX12_bases 2 [.ref (ge_ad X.1 76), .int s] (ge_m g r f) (some (.int (-1000000001))) (ge_m (ge_up g 81 1 (g 81 1 + 1)) r f) := by
  refine gq_ofB (l := [(0, .ref (ge_ad X.1 76)), (1, .int s)]) (by decide) (Nat.le_of_ble_eq_true rfl) rfl ?_
  refine gq_iload_n (pc := 0) dX12_bases_0 rfl ?_
  refine gq_rS1i (pc := 1) dX12_bases_1 cs_X12_203 (k_isSheet _) ⟨by decide, by decide⟩ (Nat.le_of_ble_eq_true rfl) ?_
  refine gq_if_ne (pc := 4) 14 dX12_bases_4 (by decide) (fun h_4 => ?_) (fun h_4 => ?_)
  · exact absurd h h_4
  · refine gq_aload_n (pc := 7) dX12_bases_7 rfl ?_
    refine gq_ldc (pc := 8) dX12_bases_8 kn_X12_53 ?_
    refine gq_rV1i (pc := 10) dX12_bases_10 cv_X12_54 sh_76 (k_errs (j := 1) (by decide) (by decide)) ⟨by decide, by decide⟩ rfl rfl (Nat.le_of_ble_eq_true rfl) ?_
    exact gq_iret (pc := 13) rfl dX12_bases_13 ⟨rfl, rfl⟩
set_option maxHeartbeats 400000 in
theorem m_bases_no {s : Int32} {S : Nat} (hs : s = nI S) (hS : S ≤ 3) (h : g 82 S = 0) : ge_N X ge_SH YX12_bases 2 [.ref (ge_ad X.1 76), .int s] (ge_m g r f) (some (.int (-1000000002))) (ge_m (ge_up g 81 2 (g 81 2 + 1)) r f) := by
  refine gq_ofB (l := [(0, .ref (ge_ad X.1 76)), (1, .int s)]) (by decide) (Nat.le_of_ble_eq_true rfl) rfl ?_
  refine gq_iload_n (pc := 0) dX12_bases_0 rfl ?_
  refine gq_rS1i (pc := 1) dX12_bases_1 cs_X12_203 (k_isSheet _) ⟨by decide, by decide⟩ (Nat.le_of_ble_eq_true rfl) ?_
  refine gq_if_ne (pc := 4) 14 dX12_bases_4 (by decide) (fun h_4 => ?_) (fun h_4 => ?_)
  · refine gq_aload_n (pc := 14) dX12_bases_14 rfl ?_
    refine gq_getr (pc := 15) dX12_bases_15 fl_X12_25_12 sh_76 rfl ?_
    refine gq_iload_n (pc := 18) dX12_bases_18 rfl ?_
    refine qm_aldo (pc := 19) dX12_bases_19 sh_82 (by decide) hs (by first | decide | omega) (by decide) ?_
    refine gq_if_ne (pc := 20) 30 dX12_bases_20 (by decide) (fun h_20 => ?_) (fun h_20 => ?_)
    · exact absurd h h_20
    · refine gq_aload_n (pc := 23) dX12_bases_23 rfl ?_
      refine gq_ldc (pc := 24) dX12_bases_24 kn_X12_202 ?_
      refine gq_rV1i (pc := 26) dX12_bases_26 cv_X12_54 sh_76 (k_errs (j := 2) (by decide) (by decide)) ⟨by decide, by decide⟩ rfl rfl (Nat.le_of_ble_eq_true rfl) ?_
      exact gq_iret (pc := 29) rfl dX12_bases_29 ⟨rfl, rfl⟩
  · exact absurd h_4 (p_in_le (N := 3) hs hS (by decide))
set_option maxHeartbeats 1000000 in
theorem m_bases_ok {s : Int32} {S : Nat} (hs : s = nI S) (hS : S ≤ 3) {n E : Nat} (hn2 : n ≤ 40) (hE : E ≤ 8) (e2 : r 2 = nI E) (hb0 : ¬ g 82 S = 0) (hn : g 83 S = nI n) : ge_N X ge_SH YX12_bases 2 [.ref (ge_ad X.1 76), .int s] (ge_m g r f) (some (.int (nI (p_bsr (fun k => g 84 (40 * S + k)) (min n E) 0 r).2))) (ge_m g (p_bsr (fun k => g 84 (40 * S + k)) (min n E) 0 r).1 f) := by
  refine gq_ofB (l := [(0, .ref (ge_ad X.1 76)), (1, .int s)]) (by decide) (Nat.le_of_ble_eq_true rfl) rfl ?_
  have key : ∀ (m i : Nat) (r1 : Nat → Int32), i + m = min n E → r1 2 = nI E → p_bsr (fun k => g 84 (40 * S + k)) m i r1 = p_bsr (fun k => g 84 (40 * S + k)) (min n E) 0 r → ge_B X ge_SH YX12_bases 2 (fun v2 g2 => v2 = (some (.int (nI (p_bsr (fun k => g 84 (40 * S + k)) (min n E) 0 r).2))) ∧ g2 = (ge_m g (p_bsr (fun k => g 84 (40 * S + k)) (min n E) 0 r).1 f)) 32 [(2, .int (nI i)), (0, .ref (ge_ad X.1 76)), (1, .int s)] [] (ge_m g r1 f) := by
    intro m
    induction m with
    | zero =>
      intro i r1 hi e1 hR
      refine gq_iload_n (pc := 32) dX12_bases_32 rfl ?_
      refine gq_aload_n (pc := 33) dX12_bases_33 rfl ?_
      refine gq_getr (pc := 34) dX12_bases_34 fl_X12_28_12 sh_76 rfl ?_
      refine gq_iload_n (pc := 37) dX12_bases_37 rfl ?_
      refine qm_aldo (pc := 38) dX12_bases_38 sh_83 (by decide) hs (by first | decide | omega) (by decide) ?_
      refine gq_ic_ge (pc := 39) 93 dX12_bases_39 (by decide) (fun h_39 => ?_) (fun h_39 => ?_)
      · refine gq_iload_n (pc := 93) dX12_bases_93 rfl ?_
        exact gq_iret (pc := 94) rfl dX12_bases_94 ⟨by rw [← hR]; rfl, by rw [← hR]; rfl⟩
      · refine gq_aload_n (pc := 42) dX12_bases_42 rfl ?_
        refine gq_iload_n (pc := 43) dX12_bases_43 rfl ?_
        refine gq_rV1i (pc := 44) dX12_bases_44 cv_X12_66 sh_76 (k_isEye _) ⟨by decide, by decide⟩ rfl rfl (Nat.le_of_ble_eq_true rfl) ?_
        refine gq_if_eq (pc := 47) 93 dX12_bases_47 (by decide) (fun h_47 => ?_) (fun h_47 => ?_)
        · refine gq_iload_n (pc := 93) dX12_bases_93 rfl ?_
          exact gq_iret (pc := 94) rfl dX12_bases_94 ⟨by rw [← hR]; rfl, by rw [← hR]; rfl⟩
        · exact absurd (p_in_iE (by omega) e1 h_47) (fun ⟨j, q1, q2⟩ => by have q3 := (nI_eq (by omega) (by omega)).mp q2; have q4 : ¬ n ≤ i := fun q => h_39 (by rw [hn]; exact (nI_leI (by omega) (by omega)).mpr q); omega)
    | succ m ih =>
      intro i r1 hi e1 hR
      refine gq_iload_n (pc := 32) dX12_bases_32 rfl ?_
      refine gq_aload_n (pc := 33) dX12_bases_33 rfl ?_
      refine gq_getr (pc := 34) dX12_bases_34 fl_X12_28_12 sh_76 rfl ?_
      refine gq_iload_n (pc := 37) dX12_bases_37 rfl ?_
      refine qm_aldo (pc := 38) dX12_bases_38 sh_83 (by decide) hs (by first | decide | omega) (by decide) ?_
      refine gq_ic_ge (pc := 39) 93 dX12_bases_39 (by decide) (fun h_39 => ?_) (fun h_39 => ?_)
      · rw [hn] at h_39
        exact absurd ((nI_leI (a := n) (b := i) (by omega) (by omega)).mp h_39) (by omega)
      · refine gq_aload_n (pc := 42) dX12_bases_42 rfl ?_
        refine gq_iload_n (pc := 43) dX12_bases_43 rfl ?_
        refine gq_rV1i (pc := 44) dX12_bases_44 cv_X12_66 sh_76 (k_isEye _) ⟨by decide, by decide⟩ rfl rfl (Nat.le_of_ble_eq_true rfl) ?_
        refine gq_if_eq (pc := 47) 93 dX12_bases_47 (by decide) (fun h_47 => ?_) (fun h_47 => ?_)
        · exact absurd h_47 (p_in_E rfl (by omega) (by omega) e1)
        · refine gq_aload_n (pc := 50) dX12_bases_50 rfl ?_
          refine gq_getr (pc := 51) dX12_bases_51 fl_X12_31_12 sh_76 rfl ?_
          refine gq_bipush (pc := 54) dX12_bases_54 kb_40 ?_
          refine gq_iload_n (pc := 56) dX12_bases_56 rfl ?_
          refine gq_imul (pc := 57) dX12_bases_57 ?_
          refine gq_iload_n (pc := 58) dX12_bases_58 rfl ?_
          refine gq_iadd (pc := 59) dX12_bases_59 ?_
          refine qm_aldo (pc := 60) dX12_bases_60 sh_84 (by decide) (by rw [hs, show (40 : Int32) * nI S = nI (40 * S) from pk_mul 40 S, nI_add]) (by first | decide | omega) (by decide) ?_
          refine gq_iconst (pc := 61) dX12_bases_61 kc_0 ?_
          refine gq_bipush (pc := 62) dX12_bases_62 kb_9 ?_
          refine gq_rS3i (pc := 64) dX12_bases_64 cs_X12_41 (k_in _ _ _) ⟨by decide, by decide⟩ (Nat.le_of_ble_eq_true rfl) ?_
          refine gq_if_eq (pc := 67) 93 dX12_bases_67 (by decide) (fun h_67 => ?_) (fun h_67 => ?_)
          · have hR2 : p_bsr (fun k => g 84 (40 * S + k)) (m + 1) i r1 = (r1, i) := if_pos h_67
            rw [hR2] at hR
            refine gq_iload_n (pc := 93) dX12_bases_93 rfl ?_
            exact gq_iret (pc := 94) rfl dX12_bases_94 ⟨by rw [← hR], by rw [← hR]⟩
          · refine gq_aload_n (pc := 70) dX12_bases_70 rfl ?_
            refine gq_iload_n (pc := 71) dX12_bases_71 rfl ?_
            refine gq_iconst (pc := 72) dX12_bases_72 kc_2 ?_
            refine gq_aload_n (pc := 73) dX12_bases_73 rfl ?_
            refine gq_getr (pc := 74) dX12_bases_74 fl_X12_31_12 sh_76 rfl ?_
            refine gq_bipush (pc := 77) dX12_bases_77 kb_40 ?_
            refine gq_iload_n (pc := 79) dX12_bases_79 rfl ?_
            refine gq_imul (pc := 80) dX12_bases_80 ?_
            refine gq_iload_n (pc := 81) dX12_bases_81 rfl ?_
            refine gq_iadd (pc := 82) dX12_bases_82 ?_
            refine qm_aldo (pc := 83) dX12_bases_83 sh_84 (by decide) (by rw [hs, show (40 : Int32) * nI S = nI (40 * S) from pk_mul 40 S, nI_add]) (by first | decide | omega) (by decide) ?_
            refine gq_rV3v (pc := 84) dX12_bases_84 cv_X12_59 sh_76 (k_gets rfl kl_2 (by omega)) ⟨by decide, by decide⟩ rfl rfl (Nat.le_of_ble_eq_true rfl) ?_
            refine gq_iinc (pc := 87) (l' := [(2, _), (0, _), (1, _)]) dX12_bases_87 rfl (ge_inc1 i) (by decide) rfl ?_
            refine gq_goto (pc := 90) 32 dX12_bases_90 (by decide) ?_
            refine gq_sub [0, 1, 2] rfl ?_
            exact ih (i + 1) _ (by omega) (by rw [p_lo_ue _ _ _ _ 2 (by omega)]; exact e1) (by rw [← hR]; exact (if_neg h_67).symm)
  refine gq_iload_n (pc := 0) dX12_bases_0 rfl ?_
  refine gq_rS1i (pc := 1) dX12_bases_1 cs_X12_203 (k_isSheet _) ⟨by decide, by decide⟩ (Nat.le_of_ble_eq_true rfl) ?_
  refine gq_if_ne (pc := 4) 14 dX12_bases_4 (by decide) (fun h_4 => ?_) (fun h_4 => ?_)
  · refine gq_aload_n (pc := 14) dX12_bases_14 rfl ?_
    refine gq_getr (pc := 15) dX12_bases_15 fl_X12_25_12 sh_76 rfl ?_
    refine gq_iload_n (pc := 18) dX12_bases_18 rfl ?_
    refine qm_aldo (pc := 19) dX12_bases_19 sh_82 (by decide) hs (by first | decide | omega) (by decide) ?_
    refine gq_if_ne (pc := 20) 30 dX12_bases_20 (by decide) (fun h_20 => ?_) (fun h_20 => ?_)
    · refine gq_iconst (pc := 30) dX12_bases_30 kc_0 ?_
      refine gq_istore_n (pc := 31) (l' := [(2, _), (0, _), (1, _)]) dX12_bases_31 (by decide) rfl ?_
      refine gq_sub [0, 1, 2] rfl ?_
      exact key (min n E) 0 r (by omega) e2 rfl
    · exact absurd h_20 hb0
  · exact absurd h_4 (p_in_le (N := 3) hs hS (by decide))
set_option maxHeartbeats 400000 in
theorem c_judge_no_0 (h : g 67 2 = 0) : ge_N X ge_SH YX11_judge 3 [.ref (ge_ad X.1 0), .int 0] (ge_k g 25 r x hb) (some (.int (-1000000000 - 2))) (ge_k (ge_up g 75 2 (g 75 2 + 1)) 25 r x hb) := by
  refine gq_ofB (l := [(0, .ref (ge_ad X.1 0)), (1, .int 0)]) (by decide) (Nat.le_of_ble_eq_true rfl) rfl ?_
  refine gq_iload_n (pc := 0) dX11_judge_0 rfl ?_
  refine gq_rS1i (pc := 1) dX11_judge_1 cs_X11_232 (c_noSheet _) ⟨by decide, by decide⟩ (Nat.le_of_ble_eq_true rfl) ?_
  refine gq_if_eq (pc := 4) 13 dX11_judge_4 (by decide) (fun h_4 => ?_) (fun h_4 => ?_)
  · refine gq_aload_n (pc := 13) dX11_judge_13 rfl ?_
    refine gq_getr (pc := 14) dX11_judge_14 fl_X11_89_11 sh_0 rfl ?_
    refine gq_iload_n (pc := 17) dX11_judge_17 rfl ?_
    refine gq_aald (pc := 18) dX11_judge_18 sh_66 rfl kl_0 rfl (by decide) ?_
    refine gq_astore_n (pc := 19) (l' := [(2, _), (0, _), (1, _)]) dX11_judge_19 (by decide) rfl ?_
    refine gq_aload_n (pc := 20) dX11_judge_20 rfl ?_
    refine kq_geto (pw := 25) (pc := 21) (by decide) dX11_judge_21 fl_X11_235_7 sh_67 rfl (by unfold ge_Z; omega) ?_
    refine gq_if_ne (pc := 24) 33 dX11_judge_24 (by decide) (fun h_24 => ?_) (fun h_24 => ?_)
    · exact absurd h h_24
    · refine gq_aload_n (pc := 27) dX11_judge_27 rfl ?_
      refine gq_iconst (pc := 28) dX11_judge_28 kc_2 ?_
      refine gq_rV1i (pc := 29) dX11_judge_29 cv_X11_109 sh_0 (c_error kl_2 (by decide)) ⟨by decide, by decide⟩ rfl rfl (Nat.le_of_ble_eq_true rfl) ?_
      exact gq_iret (pc := 32) rfl dX11_judge_32 ⟨rfl, rfl⟩
  · exact absurd (show p_nt (p_in 0 0 3) = 0 by decide) h_4
set_option maxHeartbeats 1000000 in
theorem c_judge_ok_0 {n E : Nat} (hn2 : n ≤ 40) (hE : E ≤ 8) (e2 : r 2 = nI E) (hI : p_inv c r) (hL : c_lw g r) (hb0 : ¬ g 67 2 = 0) (hn : g 67 1 = nI n) : ge_N X ge_SH YX11_judge 3 [.ref (ge_ad X.1 0), .int 0] (ge_k g 25 r x hb) (some (.int (p_jv n E (p_ju (g 68) (p_shows r) (min n E) 0)))) (ge_k g 25 r x hb) := by
  have hm : p_min (g 67 1) (r 2) = nI (min n E) := by rw [hn, e2, p_min2 (by omega) (by omega)]
  refine gq_ofB (l := [(0, .ref (ge_ad X.1 0)), (1, .int 0)]) (by decide) (Nat.le_of_ble_eq_true rfl) rfl ?_
  have key : ∀ (m i : Nat), i + m = min n E → p_ju (g 68) (p_shows r) m i = p_ju (g 68) (p_shows r) (min n E) 0 → ge_B X ge_SH YX11_judge 3 (fun v2 g2 => v2 = (some (.int (p_jv n E (p_ju (g 68) (p_shows r) (min n E) 0)))) ∧ g2 = (ge_k g 25 r x hb)) 51 [(4, .int (nI i)), (0, .ref (ge_ad X.1 0)), (1, .int 0), (2, .ref (ge_ad X.1 67)), (3, .int (nI (min n E)))] [] (ge_k g 25 r x hb) := by
    intro m
    induction m with
    | zero =>
      intro i hi hR
      obtain rfl : i = min n E := hi
      have hR : min n E = p_ju (g 68) (p_shows r) (min n E) 0 := hR
      refine gq_iload (pc := 51) dX11_judge_51 rfl ?_
      refine gq_iload_n (pc := 53) dX11_judge_53 rfl ?_
      refine gq_ic_ge (pc := 54) 85 dX11_judge_54 (by decide) (fun h_54 => ?_) (fun h_54 => ?_)
      · refine gq_aload_n (pc := 85) dX11_judge_85 rfl ?_
        refine kq_geto (pw := 25) (pc := 86) (by decide) dX11_judge_86 fl_X11_182_7 sh_67 rfl (by unfold ge_Z; omega) ?_
        refine gq_aload_n (pc := 89) dX11_judge_89 rfl ?_
        refine gq_getr (pc := 90) dX11_judge_90 fl_X11_60_11 sh_0 rfl ?_
        refine kq_get11 (pw := 25) (pc := 93) (by decide) dX11_judge_93 fl_X11_119_10 ?_
        rw [hn, e2]
        refine gq_ic_ne (pc := 96) 103 dX11_judge_96 (by decide) (fun h_96 => ?_) (fun h_96 => ?_)
        · refine gq_iload_n (pc := 103) dX11_judge_103 rfl ?_
          exact gq_iret (pc := 104) rfl dX11_judge_104 ⟨by rw [← hR]; unfold p_jv; rw [if_neg (fun q => h_96 (by rw [q.1.symm.trans q.2]))], rfl⟩
        · refine gq_iconst (pc := 99) dX11_judge_99 kc_m1 ?_
          refine gq_goto (pc := 100) 104 dX11_judge_100 (by decide) ?_
          exact gq_iret (pc := 104) rfl dX11_judge_104 ⟨by rw [← hR]; unfold p_jv; have q : n = E := (nI_eq (by omega) (by omega)).mp h_96; rw [if_pos (by omega)], rfl⟩
      · exact absurd (Int32.le_refl _) h_54
    | succ m ih =>
      intro i hi hR
      refine gq_iload (pc := 51) dX11_judge_51 rfl ?_
      refine gq_iload_n (pc := 53) dX11_judge_53 rfl ?_
      refine gq_ic_ge (pc := 54) 85 dX11_judge_54 (by decide) (fun h_54 => ?_) (fun h_54 => ?_)
      · exact absurd ((nI_leI (a := min n E) (b := i) (by omega) (by omega)).mp h_54) (by omega)
      · refine gq_aload_n (pc := 57) dX11_judge_57 rfl ?_
        refine gq_getr (pc := 58) dX11_judge_58 fl_X11_297_7 sh_67 rfl ?_
        refine gq_iload (pc := 61) dX11_judge_61 rfl ?_
        refine kq_aldo (pw := 25) (pc := 63) (by decide) dX11_judge_63 sh_68 (by decide) rfl (by first | decide | omega) (by decide) ?_
        refine gq_aload_n (pc := 64) dX11_judge_64 rfl ?_
        refine gq_getr (pc := 65) dX11_judge_65 fl_X11_60_11 sh_0 rfl ?_
        refine gq_iload (pc := 68) dX11_judge_68 rfl ?_
        refine gq_rV1i (pc := 70) dX11_judge_70 cv_X11_144 sh_25 (k_thing_25 hI hL (j := i) rfl (by omega)) ⟨by decide, by decide⟩ rfl rfl (Nat.le_of_ble_eq_true rfl) ?_
        refine gq_ic_eq (pc := 73) 79 dX11_judge_73 (by decide) (fun h_73 => ?_) (fun h_73 => ?_)
        · refine gq_iinc (pc := 79) (l' := [(4, _), (0, _), (1, _), (2, _), (3, _)]) dX11_judge_79 rfl (ge_inc1 i) (by decide) rfl ?_
          refine gq_goto (pc := 82) 51 dX11_judge_82 (by decide) ?_
          refine gq_sub [0, 1, 2, 3, 4] rfl ?_
          exact ih (i + 1) (by omega) (by rw [← hR]; exact (if_pos h_73).symm)
        · have hR2 : p_ju (g 68) (p_shows r) (m + 1) i = i := if_neg h_73
          rw [hR2] at hR
          refine gq_iload (pc := 76) dX11_judge_76 rfl ?_
          exact gq_iret (pc := 78) rfl dX11_judge_78 ⟨by rw [← hR]; unfold p_jv; rw [if_neg (by omega)], rfl⟩
  refine gq_iload_n (pc := 0) dX11_judge_0 rfl ?_
  refine gq_rS1i (pc := 1) dX11_judge_1 cs_X11_232 (c_noSheet _) ⟨by decide, by decide⟩ (Nat.le_of_ble_eq_true rfl) ?_
  refine gq_if_eq (pc := 4) 13 dX11_judge_4 (by decide) (fun h_4 => ?_) (fun h_4 => ?_)
  · refine gq_aload_n (pc := 13) dX11_judge_13 rfl ?_
    refine gq_getr (pc := 14) dX11_judge_14 fl_X11_89_11 sh_0 rfl ?_
    refine gq_iload_n (pc := 17) dX11_judge_17 rfl ?_
    refine gq_aald (pc := 18) dX11_judge_18 sh_66 rfl kl_0 rfl (by decide) ?_
    refine gq_astore_n (pc := 19) (l' := [(2, _), (0, _), (1, _)]) dX11_judge_19 (by decide) rfl ?_
    refine gq_aload_n (pc := 20) dX11_judge_20 rfl ?_
    refine kq_geto (pw := 25) (pc := 21) (by decide) dX11_judge_21 fl_X11_235_7 sh_67 rfl (by unfold ge_Z; omega) ?_
    refine gq_if_ne (pc := 24) 33 dX11_judge_24 (by decide) (fun h_24 => ?_) (fun h_24 => ?_)
    · refine gq_aload_n (pc := 33) dX11_judge_33 rfl ?_
      refine kq_geto (pw := 25) (pc := 34) (by decide) dX11_judge_34 fl_X11_182_7 sh_67 rfl (by unfold ge_Z; omega) ?_
      refine gq_aload_n (pc := 37) dX11_judge_37 rfl ?_
      refine gq_getr (pc := 38) dX11_judge_38 fl_X11_60_11 sh_0 rfl ?_
      refine kq_get11 (pw := 25) (pc := 41) (by decide) dX11_judge_41 fl_X11_119_10 ?_
      refine gq_rS2i (pc := 44) dX11_judge_44 cs_X11_312 (k_min _ _) ⟨by decide, by decide⟩ (Nat.le_of_ble_eq_true rfl) ?_
      rw [hm]
      refine gq_istore_n (pc := 47) (l' := [(3, _), (2, _), (0, _), (1, _)]) dX11_judge_47 (by decide) rfl ?_
      refine gq_iconst (pc := 48) dX11_judge_48 kc_0 ?_
      refine gq_istore (pc := 49) (l' := [(4, _), (3, _), (2, _), (0, _), (1, _)]) dX11_judge_49 (by decide) rfl ?_
      refine gq_sub [0, 3, 4, 2, 1] rfl ?_
      exact key (min n E) 0 (by omega) rfl
    · exact absurd h_24 hb0
  · exact absurd (show p_nt (p_in 0 0 3) = 0 by decide) h_4
set_option maxHeartbeats 400000 in
theorem c_judge_no_1 (h : g 69 2 = 0) : ge_N X ge_SH YX11_judge 3 [.ref (ge_ad X.1 0), .int 1] (ge_k g 25 r x hb) (some (.int (-1000000000 - 2))) (ge_k (ge_up g 75 2 (g 75 2 + 1)) 25 r x hb) := by
  refine gq_ofB (l := [(0, .ref (ge_ad X.1 0)), (1, .int 1)]) (by decide) (Nat.le_of_ble_eq_true rfl) rfl ?_
  refine gq_iload_n (pc := 0) dX11_judge_0 rfl ?_
  refine gq_rS1i (pc := 1) dX11_judge_1 cs_X11_232 (c_noSheet _) ⟨by decide, by decide⟩ (Nat.le_of_ble_eq_true rfl) ?_
  refine gq_if_eq (pc := 4) 13 dX11_judge_4 (by decide) (fun h_4 => ?_) (fun h_4 => ?_)
  · refine gq_aload_n (pc := 13) dX11_judge_13 rfl ?_
    refine gq_getr (pc := 14) dX11_judge_14 fl_X11_89_11 sh_0 rfl ?_
    refine gq_iload_n (pc := 17) dX11_judge_17 rfl ?_
    refine gq_aald (pc := 18) dX11_judge_18 sh_66 rfl kl_1 rfl (by decide) ?_
    refine gq_astore_n (pc := 19) (l' := [(2, _), (0, _), (1, _)]) dX11_judge_19 (by decide) rfl ?_
    refine gq_aload_n (pc := 20) dX11_judge_20 rfl ?_
    refine kq_geto (pw := 25) (pc := 21) (by decide) dX11_judge_21 fl_X11_235_7 sh_69 rfl (by unfold ge_Z; omega) ?_
    refine gq_if_ne (pc := 24) 33 dX11_judge_24 (by decide) (fun h_24 => ?_) (fun h_24 => ?_)
    · exact absurd h h_24
    · refine gq_aload_n (pc := 27) dX11_judge_27 rfl ?_
      refine gq_iconst (pc := 28) dX11_judge_28 kc_2 ?_
      refine gq_rV1i (pc := 29) dX11_judge_29 cv_X11_109 sh_0 (c_error kl_2 (by decide)) ⟨by decide, by decide⟩ rfl rfl (Nat.le_of_ble_eq_true rfl) ?_
      exact gq_iret (pc := 32) rfl dX11_judge_32 ⟨rfl, rfl⟩
  · exact absurd (show p_nt (p_in 1 0 3) = 0 by decide) h_4
set_option maxHeartbeats 1000000 in
theorem c_judge_ok_1 {n E : Nat} (hn2 : n ≤ 40) (hE : E ≤ 8) (e2 : r 2 = nI E) (hI : p_inv c r) (hL : c_lw g r) (hb0 : ¬ g 69 2 = 0) (hn : g 69 1 = nI n) : ge_N X ge_SH YX11_judge 3 [.ref (ge_ad X.1 0), .int 1] (ge_k g 25 r x hb) (some (.int (p_jv n E (p_ju (g 70) (p_shows r) (min n E) 0)))) (ge_k g 25 r x hb) := by
  have hm : p_min (g 69 1) (r 2) = nI (min n E) := by rw [hn, e2, p_min2 (by omega) (by omega)]
  refine gq_ofB (l := [(0, .ref (ge_ad X.1 0)), (1, .int 1)]) (by decide) (Nat.le_of_ble_eq_true rfl) rfl ?_
  have key : ∀ (m i : Nat), i + m = min n E → p_ju (g 70) (p_shows r) m i = p_ju (g 70) (p_shows r) (min n E) 0 → ge_B X ge_SH YX11_judge 3 (fun v2 g2 => v2 = (some (.int (p_jv n E (p_ju (g 70) (p_shows r) (min n E) 0)))) ∧ g2 = (ge_k g 25 r x hb)) 51 [(4, .int (nI i)), (0, .ref (ge_ad X.1 0)), (1, .int 1), (2, .ref (ge_ad X.1 69)), (3, .int (nI (min n E)))] [] (ge_k g 25 r x hb) := by
    intro m
    induction m with
    | zero =>
      intro i hi hR
      obtain rfl : i = min n E := hi
      have hR : min n E = p_ju (g 70) (p_shows r) (min n E) 0 := hR
      refine gq_iload (pc := 51) dX11_judge_51 rfl ?_
      refine gq_iload_n (pc := 53) dX11_judge_53 rfl ?_
      refine gq_ic_ge (pc := 54) 85 dX11_judge_54 (by decide) (fun h_54 => ?_) (fun h_54 => ?_)
      · refine gq_aload_n (pc := 85) dX11_judge_85 rfl ?_
        refine kq_geto (pw := 25) (pc := 86) (by decide) dX11_judge_86 fl_X11_182_7 sh_69 rfl (by unfold ge_Z; omega) ?_
        refine gq_aload_n (pc := 89) dX11_judge_89 rfl ?_
        refine gq_getr (pc := 90) dX11_judge_90 fl_X11_60_11 sh_0 rfl ?_
        refine kq_get11 (pw := 25) (pc := 93) (by decide) dX11_judge_93 fl_X11_119_10 ?_
        rw [hn, e2]
        refine gq_ic_ne (pc := 96) 103 dX11_judge_96 (by decide) (fun h_96 => ?_) (fun h_96 => ?_)
        · refine gq_iload_n (pc := 103) dX11_judge_103 rfl ?_
          exact gq_iret (pc := 104) rfl dX11_judge_104 ⟨by rw [← hR]; unfold p_jv; rw [if_neg (fun q => h_96 (by rw [q.1.symm.trans q.2]))], rfl⟩
        · refine gq_iconst (pc := 99) dX11_judge_99 kc_m1 ?_
          refine gq_goto (pc := 100) 104 dX11_judge_100 (by decide) ?_
          exact gq_iret (pc := 104) rfl dX11_judge_104 ⟨by rw [← hR]; unfold p_jv; have q : n = E := (nI_eq (by omega) (by omega)).mp h_96; rw [if_pos (by omega)], rfl⟩
      · exact absurd (Int32.le_refl _) h_54
    | succ m ih =>
      intro i hi hR
      refine gq_iload (pc := 51) dX11_judge_51 rfl ?_
      refine gq_iload_n (pc := 53) dX11_judge_53 rfl ?_
      refine gq_ic_ge (pc := 54) 85 dX11_judge_54 (by decide) (fun h_54 => ?_) (fun h_54 => ?_)
      · exact absurd ((nI_leI (a := min n E) (b := i) (by omega) (by omega)).mp h_54) (by omega)
      · refine gq_aload_n (pc := 57) dX11_judge_57 rfl ?_
        refine gq_getr (pc := 58) dX11_judge_58 fl_X11_297_7 sh_69 rfl ?_
        refine gq_iload (pc := 61) dX11_judge_61 rfl ?_
        refine kq_aldo (pw := 25) (pc := 63) (by decide) dX11_judge_63 sh_70 (by decide) rfl (by first | decide | omega) (by decide) ?_
        refine gq_aload_n (pc := 64) dX11_judge_64 rfl ?_
        refine gq_getr (pc := 65) dX11_judge_65 fl_X11_60_11 sh_0 rfl ?_
        refine gq_iload (pc := 68) dX11_judge_68 rfl ?_
        refine gq_rV1i (pc := 70) dX11_judge_70 cv_X11_144 sh_25 (k_thing_25 hI hL (j := i) rfl (by omega)) ⟨by decide, by decide⟩ rfl rfl (Nat.le_of_ble_eq_true rfl) ?_
        refine gq_ic_eq (pc := 73) 79 dX11_judge_73 (by decide) (fun h_73 => ?_) (fun h_73 => ?_)
        · refine gq_iinc (pc := 79) (l' := [(4, _), (0, _), (1, _), (2, _), (3, _)]) dX11_judge_79 rfl (ge_inc1 i) (by decide) rfl ?_
          refine gq_goto (pc := 82) 51 dX11_judge_82 (by decide) ?_
          refine gq_sub [0, 1, 2, 3, 4] rfl ?_
          exact ih (i + 1) (by omega) (by rw [← hR]; exact (if_pos h_73).symm)
        · have hR2 : p_ju (g 70) (p_shows r) (m + 1) i = i := if_neg h_73
          rw [hR2] at hR
          refine gq_iload (pc := 76) dX11_judge_76 rfl ?_
          exact gq_iret (pc := 78) rfl dX11_judge_78 ⟨by rw [← hR]; unfold p_jv; rw [if_neg (by omega)], rfl⟩
  refine gq_iload_n (pc := 0) dX11_judge_0 rfl ?_
  refine gq_rS1i (pc := 1) dX11_judge_1 cs_X11_232 (c_noSheet _) ⟨by decide, by decide⟩ (Nat.le_of_ble_eq_true rfl) ?_
  refine gq_if_eq (pc := 4) 13 dX11_judge_4 (by decide) (fun h_4 => ?_) (fun h_4 => ?_)
  · refine gq_aload_n (pc := 13) dX11_judge_13 rfl ?_
    refine gq_getr (pc := 14) dX11_judge_14 fl_X11_89_11 sh_0 rfl ?_
    refine gq_iload_n (pc := 17) dX11_judge_17 rfl ?_
    refine gq_aald (pc := 18) dX11_judge_18 sh_66 rfl kl_1 rfl (by decide) ?_
    refine gq_astore_n (pc := 19) (l' := [(2, _), (0, _), (1, _)]) dX11_judge_19 (by decide) rfl ?_
    refine gq_aload_n (pc := 20) dX11_judge_20 rfl ?_
    refine kq_geto (pw := 25) (pc := 21) (by decide) dX11_judge_21 fl_X11_235_7 sh_69 rfl (by unfold ge_Z; omega) ?_
    refine gq_if_ne (pc := 24) 33 dX11_judge_24 (by decide) (fun h_24 => ?_) (fun h_24 => ?_)
    · refine gq_aload_n (pc := 33) dX11_judge_33 rfl ?_
      refine kq_geto (pw := 25) (pc := 34) (by decide) dX11_judge_34 fl_X11_182_7 sh_69 rfl (by unfold ge_Z; omega) ?_
      refine gq_aload_n (pc := 37) dX11_judge_37 rfl ?_
      refine gq_getr (pc := 38) dX11_judge_38 fl_X11_60_11 sh_0 rfl ?_
      refine kq_get11 (pw := 25) (pc := 41) (by decide) dX11_judge_41 fl_X11_119_10 ?_
      refine gq_rS2i (pc := 44) dX11_judge_44 cs_X11_312 (k_min _ _) ⟨by decide, by decide⟩ (Nat.le_of_ble_eq_true rfl) ?_
      rw [hm]
      refine gq_istore_n (pc := 47) (l' := [(3, _), (2, _), (0, _), (1, _)]) dX11_judge_47 (by decide) rfl ?_
      refine gq_iconst (pc := 48) dX11_judge_48 kc_0 ?_
      refine gq_istore (pc := 49) (l' := [(4, _), (3, _), (2, _), (0, _), (1, _)]) dX11_judge_49 (by decide) rfl ?_
      refine gq_sub [0, 3, 4, 2, 1] rfl ?_
      exact key (min n E) 0 (by omega) rfl
    · exact absurd h_24 hb0
  · exact absurd (show p_nt (p_in 1 0 3) = 0 by decide) h_4
set_option maxHeartbeats 400000 in
theorem c_judge_no_2 (h : g 71 2 = 0) : ge_N X ge_SH YX11_judge 3 [.ref (ge_ad X.1 0), .int 2] (ge_k g 25 r x hb) (some (.int (-1000000000 - 2))) (ge_k (ge_up g 75 2 (g 75 2 + 1)) 25 r x hb) := by
  refine gq_ofB (l := [(0, .ref (ge_ad X.1 0)), (1, .int 2)]) (by decide) (Nat.le_of_ble_eq_true rfl) rfl ?_
  refine gq_iload_n (pc := 0) dX11_judge_0 rfl ?_
  refine gq_rS1i (pc := 1) dX11_judge_1 cs_X11_232 (c_noSheet _) ⟨by decide, by decide⟩ (Nat.le_of_ble_eq_true rfl) ?_
  refine gq_if_eq (pc := 4) 13 dX11_judge_4 (by decide) (fun h_4 => ?_) (fun h_4 => ?_)
  · refine gq_aload_n (pc := 13) dX11_judge_13 rfl ?_
    refine gq_getr (pc := 14) dX11_judge_14 fl_X11_89_11 sh_0 rfl ?_
    refine gq_iload_n (pc := 17) dX11_judge_17 rfl ?_
    refine gq_aald (pc := 18) dX11_judge_18 sh_66 rfl kl_2 rfl (by decide) ?_
    refine gq_astore_n (pc := 19) (l' := [(2, _), (0, _), (1, _)]) dX11_judge_19 (by decide) rfl ?_
    refine gq_aload_n (pc := 20) dX11_judge_20 rfl ?_
    refine kq_geto (pw := 25) (pc := 21) (by decide) dX11_judge_21 fl_X11_235_7 sh_71 rfl (by unfold ge_Z; omega) ?_
    refine gq_if_ne (pc := 24) 33 dX11_judge_24 (by decide) (fun h_24 => ?_) (fun h_24 => ?_)
    · exact absurd h h_24
    · refine gq_aload_n (pc := 27) dX11_judge_27 rfl ?_
      refine gq_iconst (pc := 28) dX11_judge_28 kc_2 ?_
      refine gq_rV1i (pc := 29) dX11_judge_29 cv_X11_109 sh_0 (c_error kl_2 (by decide)) ⟨by decide, by decide⟩ rfl rfl (Nat.le_of_ble_eq_true rfl) ?_
      exact gq_iret (pc := 32) rfl dX11_judge_32 ⟨rfl, rfl⟩
  · exact absurd (show p_nt (p_in 2 0 3) = 0 by decide) h_4
set_option maxHeartbeats 1000000 in
theorem c_judge_ok_2 {n E : Nat} (hn2 : n ≤ 40) (hE : E ≤ 8) (e2 : r 2 = nI E) (hI : p_inv c r) (hL : c_lw g r) (hb0 : ¬ g 71 2 = 0) (hn : g 71 1 = nI n) : ge_N X ge_SH YX11_judge 3 [.ref (ge_ad X.1 0), .int 2] (ge_k g 25 r x hb) (some (.int (p_jv n E (p_ju (g 72) (p_shows r) (min n E) 0)))) (ge_k g 25 r x hb) := by
  have hm : p_min (g 71 1) (r 2) = nI (min n E) := by rw [hn, e2, p_min2 (by omega) (by omega)]
  refine gq_ofB (l := [(0, .ref (ge_ad X.1 0)), (1, .int 2)]) (by decide) (Nat.le_of_ble_eq_true rfl) rfl ?_
  have key : ∀ (m i : Nat), i + m = min n E → p_ju (g 72) (p_shows r) m i = p_ju (g 72) (p_shows r) (min n E) 0 → ge_B X ge_SH YX11_judge 3 (fun v2 g2 => v2 = (some (.int (p_jv n E (p_ju (g 72) (p_shows r) (min n E) 0)))) ∧ g2 = (ge_k g 25 r x hb)) 51 [(4, .int (nI i)), (0, .ref (ge_ad X.1 0)), (1, .int 2), (2, .ref (ge_ad X.1 71)), (3, .int (nI (min n E)))] [] (ge_k g 25 r x hb) := by
    intro m
    induction m with
    | zero =>
      intro i hi hR
      obtain rfl : i = min n E := hi
      have hR : min n E = p_ju (g 72) (p_shows r) (min n E) 0 := hR
      refine gq_iload (pc := 51) dX11_judge_51 rfl ?_
      refine gq_iload_n (pc := 53) dX11_judge_53 rfl ?_
      refine gq_ic_ge (pc := 54) 85 dX11_judge_54 (by decide) (fun h_54 => ?_) (fun h_54 => ?_)
      · refine gq_aload_n (pc := 85) dX11_judge_85 rfl ?_
        refine kq_geto (pw := 25) (pc := 86) (by decide) dX11_judge_86 fl_X11_182_7 sh_71 rfl (by unfold ge_Z; omega) ?_
        refine gq_aload_n (pc := 89) dX11_judge_89 rfl ?_
        refine gq_getr (pc := 90) dX11_judge_90 fl_X11_60_11 sh_0 rfl ?_
        refine kq_get11 (pw := 25) (pc := 93) (by decide) dX11_judge_93 fl_X11_119_10 ?_
        rw [hn, e2]
        refine gq_ic_ne (pc := 96) 103 dX11_judge_96 (by decide) (fun h_96 => ?_) (fun h_96 => ?_)
        · refine gq_iload_n (pc := 103) dX11_judge_103 rfl ?_
          exact gq_iret (pc := 104) rfl dX11_judge_104 ⟨by rw [← hR]; unfold p_jv; rw [if_neg (fun q => h_96 (by rw [q.1.symm.trans q.2]))], rfl⟩
        · refine gq_iconst (pc := 99) dX11_judge_99 kc_m1 ?_
          refine gq_goto (pc := 100) 104 dX11_judge_100 (by decide) ?_
          exact gq_iret (pc := 104) rfl dX11_judge_104 ⟨by rw [← hR]; unfold p_jv; have q : n = E := (nI_eq (by omega) (by omega)).mp h_96; rw [if_pos (by omega)], rfl⟩
      · exact absurd (Int32.le_refl _) h_54
    | succ m ih =>
      intro i hi hR
      refine gq_iload (pc := 51) dX11_judge_51 rfl ?_
      refine gq_iload_n (pc := 53) dX11_judge_53 rfl ?_
      refine gq_ic_ge (pc := 54) 85 dX11_judge_54 (by decide) (fun h_54 => ?_) (fun h_54 => ?_)
      · exact absurd ((nI_leI (a := min n E) (b := i) (by omega) (by omega)).mp h_54) (by omega)
      · refine gq_aload_n (pc := 57) dX11_judge_57 rfl ?_
        refine gq_getr (pc := 58) dX11_judge_58 fl_X11_297_7 sh_71 rfl ?_
        refine gq_iload (pc := 61) dX11_judge_61 rfl ?_
        refine kq_aldo (pw := 25) (pc := 63) (by decide) dX11_judge_63 sh_72 (by decide) rfl (by first | decide | omega) (by decide) ?_
        refine gq_aload_n (pc := 64) dX11_judge_64 rfl ?_
        refine gq_getr (pc := 65) dX11_judge_65 fl_X11_60_11 sh_0 rfl ?_
        refine gq_iload (pc := 68) dX11_judge_68 rfl ?_
        refine gq_rV1i (pc := 70) dX11_judge_70 cv_X11_144 sh_25 (k_thing_25 hI hL (j := i) rfl (by omega)) ⟨by decide, by decide⟩ rfl rfl (Nat.le_of_ble_eq_true rfl) ?_
        refine gq_ic_eq (pc := 73) 79 dX11_judge_73 (by decide) (fun h_73 => ?_) (fun h_73 => ?_)
        · refine gq_iinc (pc := 79) (l' := [(4, _), (0, _), (1, _), (2, _), (3, _)]) dX11_judge_79 rfl (ge_inc1 i) (by decide) rfl ?_
          refine gq_goto (pc := 82) 51 dX11_judge_82 (by decide) ?_
          refine gq_sub [0, 1, 2, 3, 4] rfl ?_
          exact ih (i + 1) (by omega) (by rw [← hR]; exact (if_pos h_73).symm)
        · have hR2 : p_ju (g 72) (p_shows r) (m + 1) i = i := if_neg h_73
          rw [hR2] at hR
          refine gq_iload (pc := 76) dX11_judge_76 rfl ?_
          exact gq_iret (pc := 78) rfl dX11_judge_78 ⟨by rw [← hR]; unfold p_jv; rw [if_neg (by omega)], rfl⟩
  refine gq_iload_n (pc := 0) dX11_judge_0 rfl ?_
  refine gq_rS1i (pc := 1) dX11_judge_1 cs_X11_232 (c_noSheet _) ⟨by decide, by decide⟩ (Nat.le_of_ble_eq_true rfl) ?_
  refine gq_if_eq (pc := 4) 13 dX11_judge_4 (by decide) (fun h_4 => ?_) (fun h_4 => ?_)
  · refine gq_aload_n (pc := 13) dX11_judge_13 rfl ?_
    refine gq_getr (pc := 14) dX11_judge_14 fl_X11_89_11 sh_0 rfl ?_
    refine gq_iload_n (pc := 17) dX11_judge_17 rfl ?_
    refine gq_aald (pc := 18) dX11_judge_18 sh_66 rfl kl_2 rfl (by decide) ?_
    refine gq_astore_n (pc := 19) (l' := [(2, _), (0, _), (1, _)]) dX11_judge_19 (by decide) rfl ?_
    refine gq_aload_n (pc := 20) dX11_judge_20 rfl ?_
    refine kq_geto (pw := 25) (pc := 21) (by decide) dX11_judge_21 fl_X11_235_7 sh_71 rfl (by unfold ge_Z; omega) ?_
    refine gq_if_ne (pc := 24) 33 dX11_judge_24 (by decide) (fun h_24 => ?_) (fun h_24 => ?_)
    · refine gq_aload_n (pc := 33) dX11_judge_33 rfl ?_
      refine kq_geto (pw := 25) (pc := 34) (by decide) dX11_judge_34 fl_X11_182_7 sh_71 rfl (by unfold ge_Z; omega) ?_
      refine gq_aload_n (pc := 37) dX11_judge_37 rfl ?_
      refine gq_getr (pc := 38) dX11_judge_38 fl_X11_60_11 sh_0 rfl ?_
      refine kq_get11 (pw := 25) (pc := 41) (by decide) dX11_judge_41 fl_X11_119_10 ?_
      refine gq_rS2i (pc := 44) dX11_judge_44 cs_X11_312 (k_min _ _) ⟨by decide, by decide⟩ (Nat.le_of_ble_eq_true rfl) ?_
      rw [hm]
      refine gq_istore_n (pc := 47) (l' := [(3, _), (2, _), (0, _), (1, _)]) dX11_judge_47 (by decide) rfl ?_
      refine gq_iconst (pc := 48) dX11_judge_48 kc_0 ?_
      refine gq_istore (pc := 49) (l' := [(4, _), (3, _), (2, _), (0, _), (1, _)]) dX11_judge_49 (by decide) rfl ?_
      refine gq_sub [0, 3, 4, 2, 1] rfl ?_
      exact key (min n E) 0 (by omega) rfl
    · exact absurd h_24 hb0
  · exact absurd (show p_nt (p_in 2 0 3) = 0 by decide) h_4
set_option maxHeartbeats 400000 in
theorem c_judge_no_3 (h : g 73 2 = 0) : ge_N X ge_SH YX11_judge 3 [.ref (ge_ad X.1 0), .int 3] (ge_k g 25 r x hb) (some (.int (-1000000000 - 2))) (ge_k (ge_up g 75 2 (g 75 2 + 1)) 25 r x hb) := by
  refine gq_ofB (l := [(0, .ref (ge_ad X.1 0)), (1, .int 3)]) (by decide) (Nat.le_of_ble_eq_true rfl) rfl ?_
  refine gq_iload_n (pc := 0) dX11_judge_0 rfl ?_
  refine gq_rS1i (pc := 1) dX11_judge_1 cs_X11_232 (c_noSheet _) ⟨by decide, by decide⟩ (Nat.le_of_ble_eq_true rfl) ?_
  refine gq_if_eq (pc := 4) 13 dX11_judge_4 (by decide) (fun h_4 => ?_) (fun h_4 => ?_)
  · refine gq_aload_n (pc := 13) dX11_judge_13 rfl ?_
    refine gq_getr (pc := 14) dX11_judge_14 fl_X11_89_11 sh_0 rfl ?_
    refine gq_iload_n (pc := 17) dX11_judge_17 rfl ?_
    refine gq_aald (pc := 18) dX11_judge_18 sh_66 rfl kl_3 rfl (by decide) ?_
    refine gq_astore_n (pc := 19) (l' := [(2, _), (0, _), (1, _)]) dX11_judge_19 (by decide) rfl ?_
    refine gq_aload_n (pc := 20) dX11_judge_20 rfl ?_
    refine kq_geto (pw := 25) (pc := 21) (by decide) dX11_judge_21 fl_X11_235_7 sh_73 rfl (by unfold ge_Z; omega) ?_
    refine gq_if_ne (pc := 24) 33 dX11_judge_24 (by decide) (fun h_24 => ?_) (fun h_24 => ?_)
    · exact absurd h h_24
    · refine gq_aload_n (pc := 27) dX11_judge_27 rfl ?_
      refine gq_iconst (pc := 28) dX11_judge_28 kc_2 ?_
      refine gq_rV1i (pc := 29) dX11_judge_29 cv_X11_109 sh_0 (c_error kl_2 (by decide)) ⟨by decide, by decide⟩ rfl rfl (Nat.le_of_ble_eq_true rfl) ?_
      exact gq_iret (pc := 32) rfl dX11_judge_32 ⟨rfl, rfl⟩
  · exact absurd (show p_nt (p_in 3 0 3) = 0 by decide) h_4
set_option maxHeartbeats 1000000 in
theorem c_judge_ok_3 {n E : Nat} (hn2 : n ≤ 40) (hE : E ≤ 8) (e2 : r 2 = nI E) (hI : p_inv c r) (hL : c_lw g r) (hb0 : ¬ g 73 2 = 0) (hn : g 73 1 = nI n) : ge_N X ge_SH YX11_judge 3 [.ref (ge_ad X.1 0), .int 3] (ge_k g 25 r x hb) (some (.int (p_jv n E (p_ju (g 74) (p_shows r) (min n E) 0)))) (ge_k g 25 r x hb) := by
  have hm : p_min (g 73 1) (r 2) = nI (min n E) := by rw [hn, e2, p_min2 (by omega) (by omega)]
  refine gq_ofB (l := [(0, .ref (ge_ad X.1 0)), (1, .int 3)]) (by decide) (Nat.le_of_ble_eq_true rfl) rfl ?_
  have key : ∀ (m i : Nat), i + m = min n E → p_ju (g 74) (p_shows r) m i = p_ju (g 74) (p_shows r) (min n E) 0 → ge_B X ge_SH YX11_judge 3 (fun v2 g2 => v2 = (some (.int (p_jv n E (p_ju (g 74) (p_shows r) (min n E) 0)))) ∧ g2 = (ge_k g 25 r x hb)) 51 [(4, .int (nI i)), (0, .ref (ge_ad X.1 0)), (1, .int 3), (2, .ref (ge_ad X.1 73)), (3, .int (nI (min n E)))] [] (ge_k g 25 r x hb) := by
    intro m
    induction m with
    | zero =>
      intro i hi hR
      obtain rfl : i = min n E := hi
      have hR : min n E = p_ju (g 74) (p_shows r) (min n E) 0 := hR
      refine gq_iload (pc := 51) dX11_judge_51 rfl ?_
      refine gq_iload_n (pc := 53) dX11_judge_53 rfl ?_
      refine gq_ic_ge (pc := 54) 85 dX11_judge_54 (by decide) (fun h_54 => ?_) (fun h_54 => ?_)
      · refine gq_aload_n (pc := 85) dX11_judge_85 rfl ?_
        refine kq_geto (pw := 25) (pc := 86) (by decide) dX11_judge_86 fl_X11_182_7 sh_73 rfl (by unfold ge_Z; omega) ?_
        refine gq_aload_n (pc := 89) dX11_judge_89 rfl ?_
        refine gq_getr (pc := 90) dX11_judge_90 fl_X11_60_11 sh_0 rfl ?_
        refine kq_get11 (pw := 25) (pc := 93) (by decide) dX11_judge_93 fl_X11_119_10 ?_
        rw [hn, e2]
        refine gq_ic_ne (pc := 96) 103 dX11_judge_96 (by decide) (fun h_96 => ?_) (fun h_96 => ?_)
        · refine gq_iload_n (pc := 103) dX11_judge_103 rfl ?_
          exact gq_iret (pc := 104) rfl dX11_judge_104 ⟨by rw [← hR]; unfold p_jv; rw [if_neg (fun q => h_96 (by rw [q.1.symm.trans q.2]))], rfl⟩
        · refine gq_iconst (pc := 99) dX11_judge_99 kc_m1 ?_
          refine gq_goto (pc := 100) 104 dX11_judge_100 (by decide) ?_
          exact gq_iret (pc := 104) rfl dX11_judge_104 ⟨by rw [← hR]; unfold p_jv; have q : n = E := (nI_eq (by omega) (by omega)).mp h_96; rw [if_pos (by omega)], rfl⟩
      · exact absurd (Int32.le_refl _) h_54
    | succ m ih =>
      intro i hi hR
      refine gq_iload (pc := 51) dX11_judge_51 rfl ?_
      refine gq_iload_n (pc := 53) dX11_judge_53 rfl ?_
      refine gq_ic_ge (pc := 54) 85 dX11_judge_54 (by decide) (fun h_54 => ?_) (fun h_54 => ?_)
      · exact absurd ((nI_leI (a := min n E) (b := i) (by omega) (by omega)).mp h_54) (by omega)
      · refine gq_aload_n (pc := 57) dX11_judge_57 rfl ?_
        refine gq_getr (pc := 58) dX11_judge_58 fl_X11_297_7 sh_73 rfl ?_
        refine gq_iload (pc := 61) dX11_judge_61 rfl ?_
        refine kq_aldo (pw := 25) (pc := 63) (by decide) dX11_judge_63 sh_74 (by decide) rfl (by first | decide | omega) (by decide) ?_
        refine gq_aload_n (pc := 64) dX11_judge_64 rfl ?_
        refine gq_getr (pc := 65) dX11_judge_65 fl_X11_60_11 sh_0 rfl ?_
        refine gq_iload (pc := 68) dX11_judge_68 rfl ?_
        refine gq_rV1i (pc := 70) dX11_judge_70 cv_X11_144 sh_25 (k_thing_25 hI hL (j := i) rfl (by omega)) ⟨by decide, by decide⟩ rfl rfl (Nat.le_of_ble_eq_true rfl) ?_
        refine gq_ic_eq (pc := 73) 79 dX11_judge_73 (by decide) (fun h_73 => ?_) (fun h_73 => ?_)
        · refine gq_iinc (pc := 79) (l' := [(4, _), (0, _), (1, _), (2, _), (3, _)]) dX11_judge_79 rfl (ge_inc1 i) (by decide) rfl ?_
          refine gq_goto (pc := 82) 51 dX11_judge_82 (by decide) ?_
          refine gq_sub [0, 1, 2, 3, 4] rfl ?_
          exact ih (i + 1) (by omega) (by rw [← hR]; exact (if_pos h_73).symm)
        · have hR2 : p_ju (g 74) (p_shows r) (m + 1) i = i := if_neg h_73
          rw [hR2] at hR
          refine gq_iload (pc := 76) dX11_judge_76 rfl ?_
          exact gq_iret (pc := 78) rfl dX11_judge_78 ⟨by rw [← hR]; unfold p_jv; rw [if_neg (by omega)], rfl⟩
  refine gq_iload_n (pc := 0) dX11_judge_0 rfl ?_
  refine gq_rS1i (pc := 1) dX11_judge_1 cs_X11_232 (c_noSheet _) ⟨by decide, by decide⟩ (Nat.le_of_ble_eq_true rfl) ?_
  refine gq_if_eq (pc := 4) 13 dX11_judge_4 (by decide) (fun h_4 => ?_) (fun h_4 => ?_)
  · refine gq_aload_n (pc := 13) dX11_judge_13 rfl ?_
    refine gq_getr (pc := 14) dX11_judge_14 fl_X11_89_11 sh_0 rfl ?_
    refine gq_iload_n (pc := 17) dX11_judge_17 rfl ?_
    refine gq_aald (pc := 18) dX11_judge_18 sh_66 rfl kl_3 rfl (by decide) ?_
    refine gq_astore_n (pc := 19) (l' := [(2, _), (0, _), (1, _)]) dX11_judge_19 (by decide) rfl ?_
    refine gq_aload_n (pc := 20) dX11_judge_20 rfl ?_
    refine kq_geto (pw := 25) (pc := 21) (by decide) dX11_judge_21 fl_X11_235_7 sh_73 rfl (by unfold ge_Z; omega) ?_
    refine gq_if_ne (pc := 24) 33 dX11_judge_24 (by decide) (fun h_24 => ?_) (fun h_24 => ?_)
    · refine gq_aload_n (pc := 33) dX11_judge_33 rfl ?_
      refine kq_geto (pw := 25) (pc := 34) (by decide) dX11_judge_34 fl_X11_182_7 sh_73 rfl (by unfold ge_Z; omega) ?_
      refine gq_aload_n (pc := 37) dX11_judge_37 rfl ?_
      refine gq_getr (pc := 38) dX11_judge_38 fl_X11_60_11 sh_0 rfl ?_
      refine kq_get11 (pw := 25) (pc := 41) (by decide) dX11_judge_41 fl_X11_119_10 ?_
      refine gq_rS2i (pc := 44) dX11_judge_44 cs_X11_312 (k_min _ _) ⟨by decide, by decide⟩ (Nat.le_of_ble_eq_true rfl) ?_
      rw [hm]
      refine gq_istore_n (pc := 47) (l' := [(3, _), (2, _), (0, _), (1, _)]) dX11_judge_47 (by decide) rfl ?_
      refine gq_iconst (pc := 48) dX11_judge_48 kc_0 ?_
      refine gq_istore (pc := 49) (l' := [(4, _), (3, _), (2, _), (0, _), (1, _)]) dX11_judge_49 (by decide) rfl ?_
      refine gq_sub [0, 3, 4, 2, 1] rfl ?_
      exact key (min n E) 0 (by omega) rfl
    · exact absurd h_24 hb0
  · exact absurd (show p_nt (p_in 3 0 3) = 0 by decide) h_4
set_option maxHeartbeats 400000 in
theorem c_judge_er {s : Int32} (h : p_in s 0 3 = 0) : ge_N X ge_SH YX11_judge 3 [.ref (ge_ad X.1 0), .int s] (ge_k g 25 r x hb) (some (.int (-1000000000 - 1))) (ge_k (ge_up g 75 1 (g 75 1 + 1)) 25 r x hb) := by
  refine gq_ofB (l := [(0, .ref (ge_ad X.1 0)), (1, .int s)]) (by decide) (Nat.le_of_ble_eq_true rfl) rfl ?_
  refine gq_iload_n (pc := 0) dX11_judge_0 rfl ?_
  refine gq_rS1i (pc := 1) dX11_judge_1 cs_X11_232 (c_noSheet _) ⟨by decide, by decide⟩ (Nat.le_of_ble_eq_true rfl) ?_
  refine gq_if_eq (pc := 4) 13 dX11_judge_4 (by decide) (fun h_4 => ?_) (fun h_4 => ?_)
  · exact absurd h (p_nt_0.mp h_4)
  · refine gq_aload_n (pc := 7) dX11_judge_7 rfl ?_
    refine gq_iconst (pc := 8) dX11_judge_8 kc_1 ?_
    refine gq_rV1i (pc := 9) dX11_judge_9 cv_X11_109 sh_0 (c_error kl_1 (by decide)) ⟨by decide, by decide⟩ rfl rfl (Nat.le_of_ble_eq_true rfl) ?_
    exact gq_iret (pc := 12) rfl dX11_judge_12 ⟨rfl, rfl⟩
set_option maxHeartbeats 400000 in
theorem m_judge_er {s : Int32} (h : p_in s 0 3 = 0) : ge_N X ge_SH YX12_judge 42 [.ref (ge_ad X.1 76), .int s] (ge_m g r f) (some (.int (-1000000001))) (ge_m (ge_up g 81 1 (g 81 1 + 1)) r f) := by
  refine gq_ofB (l := [(0, .ref (ge_ad X.1 76)), (1, .int s)]) (by decide) (Nat.le_of_ble_eq_true rfl) rfl ?_
  refine gq_iload_n (pc := 0) dX12_judge_0 rfl ?_
  refine gq_rS1i (pc := 1) dX12_judge_1 cs_X12_203 (k_isSheet _) ⟨by decide, by decide⟩ (Nat.le_of_ble_eq_true rfl) ?_
  refine gq_if_ne (pc := 4) 14 dX12_judge_4 (by decide) (fun h_4 => ?_) (fun h_4 => ?_)
  · exact absurd h h_4
  · refine gq_aload_n (pc := 7) dX12_judge_7 rfl ?_
    refine gq_ldc (pc := 8) dX12_judge_8 kn_X12_53 ?_
    refine gq_rV1i (pc := 10) dX12_judge_10 cv_X12_54 sh_76 (k_errs (j := 1) (by decide) (by decide)) ⟨by decide, by decide⟩ rfl rfl (Nat.le_of_ble_eq_true rfl) ?_
    exact gq_iret (pc := 13) rfl dX12_judge_13 ⟨rfl, rfl⟩
set_option maxHeartbeats 400000 in
theorem m_judge_no {s : Int32} {S : Nat} (hs : s = nI S) (hS : S ≤ 3) (h : g 82 S = 0) : ge_N X ge_SH YX12_judge 42 [.ref (ge_ad X.1 76), .int s] (ge_m g r f) (some (.int (-1000000002))) (ge_m (ge_up g 81 2 (g 81 2 + 1)) r f) := by
  refine gq_ofB (l := [(0, .ref (ge_ad X.1 76)), (1, .int s)]) (by decide) (Nat.le_of_ble_eq_true rfl) rfl ?_
  refine gq_iload_n (pc := 0) dX12_judge_0 rfl ?_
  refine gq_rS1i (pc := 1) dX12_judge_1 cs_X12_203 (k_isSheet _) ⟨by decide, by decide⟩ (Nat.le_of_ble_eq_true rfl) ?_
  refine gq_if_ne (pc := 4) 14 dX12_judge_4 (by decide) (fun h_4 => ?_) (fun h_4 => ?_)
  · refine gq_aload_n (pc := 14) dX12_judge_14 rfl ?_
    refine gq_getr (pc := 15) dX12_judge_15 fl_X12_25_12 sh_76 rfl ?_
    refine gq_iload_n (pc := 18) dX12_judge_18 rfl ?_
    refine qm_aldo (pc := 19) dX12_judge_19 sh_82 (by decide) hs (by first | decide | omega) (by decide) ?_
    refine gq_if_ne (pc := 20) 30 dX12_judge_20 (by decide) (fun h_20 => ?_) (fun h_20 => ?_)
    · exact absurd h h_20
    · refine gq_aload_n (pc := 23) dX12_judge_23 rfl ?_
      refine gq_ldc (pc := 24) dX12_judge_24 kn_X12_202 ?_
      refine gq_rV1i (pc := 26) dX12_judge_26 cv_X12_54 sh_76 (k_errs (j := 2) (by decide) (by decide)) ⟨by decide, by decide⟩ rfl rfl (Nat.le_of_ble_eq_true rfl) ?_
      exact gq_iret (pc := 29) rfl dX12_judge_29 ⟨rfl, rfl⟩
  · exact absurd h_4 (p_in_le (N := 3) hs hS (by decide))
set_option maxHeartbeats 1000000 in
theorem m_judge_ok {s : Int32} {S : Nat} (hs : s = nI S) (hS : S ≤ 3) {n E : Nat} (hn2 : n ≤ 40) (hE : E ≤ 8) (e2 : r 2 = nI E) (hI : p_inv c r) (hb0 : ¬ g 82 S = 0) (hn : g 83 S = nI n) : ge_N X ge_SH YX12_judge 42 [.ref (ge_ad X.1 76), .int s] (ge_m g r f) (some (.int (p_jv n E (p_ju (fun k => g 84 (40 * S + k)) (p_shows r) (min n E) 0)))) (ge_m g r f) := by
  refine gq_ofB (l := [(0, .ref (ge_ad X.1 76)), (1, .int s)]) (by decide) (Nat.le_of_ble_eq_true rfl) rfl ?_
  have fin : ∀ i, i ≤ 8 → i = p_ju (fun k => g 84 (40 * S + k)) (p_shows r) (min n E) 0 → ge_B X ge_SH YX12_judge 42 (fun v2 g2 => v2 = (some (.int (p_jv n E (p_ju (fun k => g 84 (40 * S + k)) (p_shows r) (min n E) 0)))) ∧ g2 = (ge_m g r f)) 77 [(2, .int (nI i)), (0, .ref (ge_ad X.1 76)), (1, .int s)] [] (ge_m g r f) := by
    intro i hi hR
    refine gq_iload_n (pc := 77) dX12_judge_77 rfl ?_
    refine gq_aload_n (pc := 78) dX12_judge_78 rfl ?_
    refine gq_getr (pc := 79) dX12_judge_79 fl_X12_7_12 sh_76 rfl ?_
    refine gq_iconst (pc := 82) dX12_judge_82 kc_2 ?_
    refine qm_ald (pc := 83) dX12_judge_83 kl_2 (by first | decide | omega) ?_
    rw [e2]
    refine gq_ic_ne (pc := 84) 101 dX12_judge_84 (by decide) (fun h_84 => ?_) (fun h_84 => ?_)
    · refine gq_iload_n (pc := 101) dX12_judge_101 rfl ?_
      exact gq_iret (pc := 102) rfl dX12_judge_102 ⟨by rw [← hR]; unfold p_jv; rw [if_neg (fun q => h_84 (by rw [q.1]))], rfl⟩
    · refine gq_iload_n (pc := 87) dX12_judge_87 rfl ?_
      refine gq_aload_n (pc := 88) dX12_judge_88 rfl ?_
      refine gq_getr (pc := 89) dX12_judge_89 fl_X12_28_12 sh_76 rfl ?_
      refine gq_iload_n (pc := 92) dX12_judge_92 rfl ?_
      refine qm_aldo (pc := 93) dX12_judge_93 sh_83 (by decide) hs (by first | decide | omega) (by decide) ?_
      rw [hn]
      refine gq_ic_ne (pc := 94) 101 dX12_judge_94 (by decide) (fun h_94 => ?_) (fun h_94 => ?_)
      · refine gq_iload_n (pc := 101) dX12_judge_101 rfl ?_
        exact gq_iret (pc := 102) rfl dX12_judge_102 ⟨by rw [← hR]; unfold p_jv; rw [if_neg (fun q => h_94 (by rw [q.2]))], rfl⟩
      · refine gq_iconst (pc := 97) dX12_judge_97 kc_m1 ?_
        refine gq_goto (pc := 98) 102 dX12_judge_98 (by decide) ?_
        exact gq_iret (pc := 102) rfl dX12_judge_102 ⟨by rw [← hR]; unfold p_jv; rw [if_pos ⟨(nI_eq (by omega) (by omega)).mp h_84, (nI_eq (by omega) (by omega)).mp h_94⟩], rfl⟩
  have key : ∀ (m i : Nat), i + m = min n E → p_ju (fun k => g 84 (40 * S + k)) (p_shows r) m i = p_ju (fun k => g 84 (40 * S + k)) (p_shows r) (min n E) 0 → ge_B X ge_SH YX12_judge 42 (fun v2 g2 => v2 = (some (.int (p_jv n E (p_ju (fun k => g 84 (40 * S + k)) (p_shows r) (min n E) 0)))) ∧ g2 = (ge_m g r f)) 32 [(2, .int (nI i)), (0, .ref (ge_ad X.1 76)), (1, .int s)] [] (ge_m g r f) := by
    intro m
    induction m with
    | zero =>
      intro i hi hR
      have hR : i = p_ju (fun k => g 84 (40 * S + k)) (p_shows r) (min n E) 0 := hR
      refine gq_iload_n (pc := 32) dX12_judge_32 rfl ?_
      refine gq_aload_n (pc := 33) dX12_judge_33 rfl ?_
      refine gq_getr (pc := 34) dX12_judge_34 fl_X12_7_12 sh_76 rfl ?_
      refine gq_iconst (pc := 37) dX12_judge_37 kc_2 ?_
      refine qm_ald (pc := 38) dX12_judge_38 kl_2 (by first | decide | omega) ?_
      rw [e2]
      refine gq_ic_ge (pc := 39) 77 dX12_judge_39 (by decide) (fun h_39 => ?_) (fun h_39 => ?_)
      · refine gq_sub [0, 1, 2] rfl ?_
        exact fin i (by omega) hR
      · refine gq_iload_n (pc := 42) dX12_judge_42 rfl ?_
        refine gq_aload_n (pc := 43) dX12_judge_43 rfl ?_
        refine gq_getr (pc := 44) dX12_judge_44 fl_X12_28_12 sh_76 rfl ?_
        refine gq_iload_n (pc := 47) dX12_judge_47 rfl ?_
        refine qm_aldo (pc := 48) dX12_judge_48 sh_83 (by decide) hs (by first | decide | omega) (by decide) ?_
        rw [hn]
        refine gq_ic_ge (pc := 49) 77 dX12_judge_49 (by decide) (fun h_49 => ?_) (fun h_49 => ?_)
        · refine gq_sub [0, 1, 2] rfl ?_
          exact fin i (by omega) hR
        · exact absurd (by omega : n ≤ i ∨ E ≤ i) (fun q => q.elim (fun q => h_49 ((nI_leI (by omega) (by omega)).mpr q)) (fun q => h_39 ((nI_leI (by omega) (by omega)).mpr q)))
    | succ m ih =>
      intro i hi hR
      refine gq_iload_n (pc := 32) dX12_judge_32 rfl ?_
      refine gq_aload_n (pc := 33) dX12_judge_33 rfl ?_
      refine gq_getr (pc := 34) dX12_judge_34 fl_X12_7_12 sh_76 rfl ?_
      refine gq_iconst (pc := 37) dX12_judge_37 kc_2 ?_
      refine qm_ald (pc := 38) dX12_judge_38 kl_2 (by first | decide | omega) ?_
      rw [e2]
      refine gq_ic_ge (pc := 39) 77 dX12_judge_39 (by decide) (fun h_39 => ?_) (fun h_39 => ?_)
      · exact absurd ((nI_leI (a := E) (b := i) (by omega) (by omega)).mp h_39) (by omega)
      · refine gq_iload_n (pc := 42) dX12_judge_42 rfl ?_
        refine gq_aload_n (pc := 43) dX12_judge_43 rfl ?_
        refine gq_getr (pc := 44) dX12_judge_44 fl_X12_28_12 sh_76 rfl ?_
        refine gq_iload_n (pc := 47) dX12_judge_47 rfl ?_
        refine qm_aldo (pc := 48) dX12_judge_48 sh_83 (by decide) hs (by first | decide | omega) (by decide) ?_
        rw [hn]
        refine gq_ic_ge (pc := 49) 77 dX12_judge_49 (by decide) (fun h_49 => ?_) (fun h_49 => ?_)
        · exact absurd ((nI_leI (a := n) (b := i) (by omega) (by omega)).mp h_49) (by omega)
        · refine gq_aload_n (pc := 52) dX12_judge_52 rfl ?_
          refine gq_getr (pc := 53) dX12_judge_53 fl_X12_31_12 sh_76 rfl ?_
          refine gq_bipush (pc := 56) dX12_judge_56 kb_40 ?_
          refine gq_iload_n (pc := 58) dX12_judge_58 rfl ?_
          refine gq_imul (pc := 59) dX12_judge_59 ?_
          refine gq_iload_n (pc := 60) dX12_judge_60 rfl ?_
          refine gq_iadd (pc := 61) dX12_judge_61 ?_
          refine qm_aldo (pc := 62) dX12_judge_62 sh_84 (by decide) (by rw [hs, show (40 : Int32) * nI S = nI (40 * S) from pk_mul 40 S, nI_add]) (by first | decide | omega) (by decide) ?_
          refine gq_aload_n (pc := 63) dX12_judge_63 rfl ?_
          refine gq_iload_n (pc := 64) dX12_judge_64 rfl ?_
          refine gq_rV1i (pc := 65) dX12_judge_65 cv_X12_75 sh_76 (k_shows hI (j := i) rfl (by omega)) ⟨by decide, by decide⟩ rfl rfl (Nat.le_of_ble_eq_true rfl) ?_
          refine gq_ic_ne (pc := 68) 77 dX12_judge_68 (by decide) (fun h_68 => ?_) (fun h_68 => ?_)
          · have hR2 : p_ju (fun k => g 84 (40 * S + k)) (p_shows r) (m + 1) i = i := if_neg h_68
            rw [hR2] at hR
            refine gq_sub [0, 1, 2] rfl ?_
            exact fin i (by omega) hR
          · refine gq_iinc (pc := 71) (l' := [(2, _), (0, _), (1, _)]) dX12_judge_71 rfl (ge_inc1 i) (by decide) rfl ?_
            refine gq_goto (pc := 74) 32 dX12_judge_74 (by decide) ?_
            refine gq_sub [0, 1, 2] rfl ?_
            exact ih (i + 1) (by omega) (by rw [← hR]; exact (if_pos h_68).symm)
  refine gq_iload_n (pc := 0) dX12_judge_0 rfl ?_
  refine gq_rS1i (pc := 1) dX12_judge_1 cs_X12_203 (k_isSheet _) ⟨by decide, by decide⟩ (Nat.le_of_ble_eq_true rfl) ?_
  refine gq_if_ne (pc := 4) 14 dX12_judge_4 (by decide) (fun h_4 => ?_) (fun h_4 => ?_)
  · refine gq_aload_n (pc := 14) dX12_judge_14 rfl ?_
    refine gq_getr (pc := 15) dX12_judge_15 fl_X12_25_12 sh_76 rfl ?_
    refine gq_iload_n (pc := 18) dX12_judge_18 rfl ?_
    refine qm_aldo (pc := 19) dX12_judge_19 sh_82 (by decide) hs (by first | decide | omega) (by decide) ?_
    refine gq_if_ne (pc := 20) 30 dX12_judge_20 (by decide) (fun h_20 => ?_) (fun h_20 => ?_)
    · refine gq_iconst (pc := 30) dX12_judge_30 kc_0 ?_
      refine gq_istore_n (pc := 31) (l' := [(2, _), (0, _), (1, _)]) dX12_judge_31 (by decide) rfl ?_
      refine gq_sub [0, 1, 2] rfl ?_
      exact key (min n E) 0 (by omega) rfl
    · exact absurd h_20 hb0
  · exact absurd h_4 (p_in_le (N := 3) hs hS (by decide))
end P9
