section F1
variable {X : ge_X} {y : ge_Y} {d : Nat} {Q : Option Value → ge_G → Prop} {l : List (Nat × Value)} {st : List Value} {g : ge_G} {pw : Nat} {r x hb : Nat → Int32} {pc : Nat}
theorem ge_k_uo {p : Nat} (hp : p < pw ∨ pw + 9 < p) (f : Nat → Int32) : ge_row (ge_k g pw r x hb) p f = ge_k (ge_row g p f) pw r x hb := by
  funext q
  by_cases h : q = p
  · subst h; rw [ge_row_self, ge_k_o _ _ _ _ _ hp, ge_row_self]
  · rw [ge_row_ne _ _ h]
    by_cases h2 : q < pw ∨ pw + 9 < q
    · rw [ge_k_o _ _ _ _ _ h2, ge_k_o _ _ _ _ _ h2, ge_row_ne _ _ h]
    · unfold ge_k
      repeat' split
      all_goals first | rfl | omega
theorem ge_k_upo {p : Nat} (hp : p < pw ∨ pw + 9 < p) (k : Nat) (v : Int32) : ge_up (ge_k g pw r x hb) p k v = ge_k (ge_up g p k v) pw r x hb := by
  unfold ge_up
  rw [ge_k_uo hp, ge_k_o _ _ _ _ _ hp]
theorem kq_aldo {p n : Nat} {i : Int32} {j : Nat} (hp : p < pw ∨ pw + 9 < p) (dg : decode y.2.1 pc = .ok (.iaload, 1)) (hs : ge_SH[p]? = some (.inr (.inl n))) (hz : p ≠ 17 ∧ p ≠ 76) (hi : i = nI j) (hj : j < n) (hn : n < 1000) (kk : ge_B X ge_SH y d Q (pc + 1) l (.int (g p j) :: st) (ge_k g pw r x hb)) : ge_B X ge_SH y d Q pc l (.int i :: .ref (ge_ad X.1 p) :: st) (ge_k g pw r x hb) :=
  gq_ald dg hs hz hi hj hn (by rw [ge_k_o _ _ _ _ _ hp]; exact kk)
theorem kq_asto {p n : Nat} {i v : Int32} {j : Nat} (hp : p < pw ∨ pw + 9 < p) (dg : decode y.2.1 pc = .ok (.iastore, 1)) (hs : ge_SH[p]? = some (.inr (.inl n))) (hi : i = nI j) (hj : j < n) (hn : n < 1000) (kk : ge_B X ge_SH y d Q (pc + 1) l st (ge_k (ge_up g p j v) pw r x hb)) : ge_B X ge_SH y d Q pc l (.int v :: .int i :: .ref (ge_ad X.1 p) :: st) (ge_k g pw r x hb) :=
  gq_ast dg hs hi hj hn (by rw [ge_k_upo hp]; exact kk)
theorem kq_geto {idx p ci k : Nat} {fs : List ge_F} (hp : p < pw ∨ pw + 9 < p) (dg : decode y.2.1 pc = .ok (.getfield idx, 3)) (hf : ge_fl y.1.cls idx ci k) (hs : ge_SH[p]? = some (.inl (ci, fs))) (hb2 : fs[k]? = some none) (hz : ¬ ge_Z p k) (kk : ge_B X ge_SH y d Q (pc + 3) l (.int (g p k) :: st) (ge_k g pw r x hb)) : ge_B X ge_SH y d Q pc l (.ref (ge_ad X.1 p) :: st) (ge_k g pw r x hb) :=
  gq_geti dg hf hs hb2 hz (by rw [ge_k_o _ _ _ _ _ hp]; exact kk)
theorem kq_puto {idx p ci k : Nat} {fs : List ge_F} {v : Int32} (hp : p < pw ∨ pw + 9 < p) (dg : decode y.2.1 pc = .ok (.putfield idx, 3)) (hf : ge_fp y.1.cls idx ci k .int) (hs : ge_SH[p]? = some (.inl (ci, fs))) (hb2 : fs[k]? = some none) (kk : ge_B X ge_SH y d Q (pc + 3) l st (ge_k (ge_up g p k v) pw r x hb)) : ge_B X ge_SH y d Q pc l (.int v :: .ref (ge_ad X.1 p) :: st) (ge_k g pw r x hb) :=
  gq_puti dg hf hs hb2 (by rw [ge_k_upo hp]; exact kk)
end F1
section F2
variable {X : ge_X} {g : ge_G} {r x hb : Nat → Int32} {c : Nat}
/-- outside: 1 where p_in is 0 -/
def p_nt (v : Int32) : Int32 := if v = 0 then 1 else 0
theorem p_nt_0 {v : Int32} : p_nt v = 0 ↔ ¬ v = 0 := by unfold p_nt; split <;> simp_all
theorem p_nt_b (v : Int32) : narrow .boolean (.int (p_nt v)) = .int (p_nt v) := by unfold p_nt; split <;> rfl
set_option maxHeartbeats 400000 in
theorem c_outside (v a b : Int32) : ge_N X ge_SH YX11_outside 0 [.int v, .int a, .int b] g (some (.int (p_nt (p_in v a b)))) g := by
  refine gq_ofB (l := [(0, .int v), (1, .int a), (2, .int b)]) (by decide) (Nat.le_of_ble_eq_true rfl) rfl ?_
  refine gq_iload_n (pc := 0) dX11_outside_0 rfl ?_
  refine gq_iload_n (pc := 1) dX11_outside_1 rfl ?_
  refine gq_ic_lt (pc := 2) 10 dX11_outside_2 (by decide) (fun h_2 => ?_) (fun h_2 => ?_)
  · refine gq_iconst (pc := 10) dX11_outside_10 kc_1 ?_
    refine gq_goto (pc := 11) 15 dX11_outside_11 (by decide) ?_
    exact gq_zret (pc := 15) rfl rfl dX11_outside_15 ⟨by unfold p_nt p_in; first | (rw [if_pos h_2]; rfl) | (rw [if_neg h_2, if_pos (Int32.not_le.mp h_7)]; rfl) | (rw [if_neg h_2, if_neg (Int32.not_lt.mpr h_7)]; rfl), rfl⟩
  · refine gq_iload_n (pc := 5) dX11_outside_5 rfl ?_
    refine gq_iload_n (pc := 6) dX11_outside_6 rfl ?_
    refine gq_ic_le (pc := 7) 14 dX11_outside_7 (by decide) (fun h_7 => ?_) (fun h_7 => ?_)
    · refine gq_iconst (pc := 14) dX11_outside_14 kc_0 ?_
      exact gq_zret (pc := 15) rfl rfl dX11_outside_15 ⟨by unfold p_nt p_in; first | (rw [if_pos h_2]; rfl) | (rw [if_neg h_2, if_pos (Int32.not_le.mp h_7)]; rfl) | (rw [if_neg h_2, if_neg (Int32.not_lt.mpr h_7)]; rfl), rfl⟩
    · refine gq_iconst (pc := 10) dX11_outside_10 kc_1 ?_
      refine gq_goto (pc := 11) 15 dX11_outside_11 (by decide) ?_
      exact gq_zret (pc := 15) rfl rfl dX11_outside_15 ⟨by unfold p_nt p_in; first | (rw [if_pos h_2]; rfl) | (rw [if_neg h_2, if_pos (Int32.not_le.mp h_7)]; rfl) | (rw [if_neg h_2, if_neg (Int32.not_lt.mpr h_7)]; rfl), rfl⟩
set_option maxHeartbeats 400000 in
theorem c_noThing (e : Int32) : ge_N X ge_SH YX11_noThing 1 [.int e] g (some (.int (p_nt (p_in e 0 9)))) g := by
  refine gq_ofB (l := [(0, .int e)]) (by decide) (Nat.le_of_ble_eq_true rfl) rfl ?_
  refine gq_iload_n (pc := 0) dX11_noThing_0 rfl ?_
  refine gq_iconst (pc := 1) dX11_noThing_1 kc_0 ?_
  refine gq_bipush (pc := 2) dX11_noThing_2 kb_9 ?_
  refine gq_rS3i (pc := 4) dX11_noThing_4 cs_X11_105 (c_outside _ _ _) ⟨by decide, by decide⟩ (Nat.le_of_ble_eq_true rfl) ?_
  exact gq_zret (pc := 7) rfl (p_nt_b _) dX11_noThing_7 ⟨rfl, rfl⟩
set_option maxHeartbeats 400000 in
theorem c_noKindAndNumber (e : Int32) : ge_N X ge_SH YX11_noKindAndNumber 1 [.int e] g (some (.int (p_nt (p_in e 0 69)))) g := by
  refine gq_ofB (l := [(0, .int e)]) (by decide) (Nat.le_of_ble_eq_true rfl) rfl ?_
  refine gq_iload_n (pc := 0) dX11_noKindAndNumber_0 rfl ?_
  refine gq_iconst (pc := 1) dX11_noKindAndNumber_1 kc_0 ?_
  refine gq_bipush (pc := 2) dX11_noKindAndNumber_2 kb_69 ?_
  refine gq_rS3i (pc := 4) dX11_noKindAndNumber_4 cs_X11_105 (c_outside _ _ _) ⟨by decide, by decide⟩ (Nat.le_of_ble_eq_true rfl) ?_
  exact gq_zret (pc := 7) rfl (p_nt_b _) dX11_noKindAndNumber_7 ⟨rfl, rfl⟩
set_option maxHeartbeats 400000 in
theorem c_noSide (e : Int32) : ge_N X ge_SH YX11_noSide 1 [.int e] g (some (.int (p_nt (p_in e 0 1)))) g := by
  refine gq_ofB (l := [(0, .int e)]) (by decide) (Nat.le_of_ble_eq_true rfl) rfl ?_
  refine gq_iload_n (pc := 0) dX11_noSide_0 rfl ?_
  refine gq_iconst (pc := 1) dX11_noSide_1 kc_0 ?_
  refine gq_iconst (pc := 2) dX11_noSide_2 kc_1 ?_
  refine gq_rS3i (pc := 3) dX11_noSide_3 cs_X11_105 (c_outside _ _ _) ⟨by decide, by decide⟩ (Nat.le_of_ble_eq_true rfl) ?_
  exact gq_zret (pc := 6) rfl (p_nt_b _) dX11_noSide_6 ⟨rfl, rfl⟩
set_option maxHeartbeats 400000 in
theorem c_noUse (e : Int32) : ge_N X ge_SH YX11_noUse 1 [.int e] g (some (.int (p_nt (p_in e 0 1)))) g := by
  refine gq_ofB (l := [(0, .int e)]) (by decide) (Nat.le_of_ble_eq_true rfl) rfl ?_
  refine gq_iload_n (pc := 0) dX11_noUse_0 rfl ?_
  refine gq_iconst (pc := 1) dX11_noUse_1 kc_0 ?_
  refine gq_iconst (pc := 2) dX11_noUse_2 kc_1 ?_
  refine gq_rS3i (pc := 3) dX11_noUse_3 cs_X11_105 (c_outside _ _ _) ⟨by decide, by decide⟩ (Nat.le_of_ble_eq_true rfl) ?_
  exact gq_zret (pc := 6) rfl (p_nt_b _) dX11_noUse_6 ⟨rfl, rfl⟩
set_option maxHeartbeats 400000 in
theorem c_noSheet (e : Int32) : ge_N X ge_SH YX11_noSheet 1 [.int e] g (some (.int (p_nt (p_in e 0 3)))) g := by
  refine gq_ofB (l := [(0, .int e)]) (by decide) (Nat.le_of_ble_eq_true rfl) rfl ?_
  refine gq_iload_n (pc := 0) dX11_noSheet_0 rfl ?_
  refine gq_iconst (pc := 1) dX11_noSheet_1 kc_0 ?_
  refine gq_iconst (pc := 2) dX11_noSheet_2 kc_3 ?_
  refine gq_rS3i (pc := 3) dX11_noSheet_3 cs_X11_105 (c_outside _ _ _) ⟨by decide, by decide⟩ (Nat.le_of_ble_eq_true rfl) ?_
  exact gq_zret (pc := 6) rfl (p_nt_b _) dX11_noSheet_6 ⟨rfl, rfl⟩
set_option maxHeartbeats 400000 in
theorem c_noEye (e : Int32) : ge_N X ge_SH YX11_noEye 1 [.ref (ge_ad X.1 0), .int e] (ge_k g 25 r x hb) (some (.int (p_nt (p_in e 0 (r 2 - 1))))) (ge_k g 25 r x hb) := by
  refine gq_ofB (l := [(0, .ref (ge_ad X.1 0)), (1, .int e)]) (by decide) (Nat.le_of_ble_eq_true rfl) rfl ?_
  refine gq_iload_n (pc := 0) dX11_noEye_0 rfl ?_
  refine gq_iconst (pc := 1) dX11_noEye_1 kc_0 ?_
  refine gq_aload_n (pc := 2) dX11_noEye_2 rfl ?_
  refine gq_getr (pc := 3) dX11_noEye_3 fl_X11_60_11 sh_0 rfl ?_
  refine kq_get11 (pw := 25) (pc := 6) (by decide) dX11_noEye_6 fl_X11_119_10 ?_
  refine gq_iconst (pc := 9) dX11_noEye_9 kc_1 ?_
  refine gq_isub (pc := 10) dX11_noEye_10 ?_
  refine gq_rS3i (pc := 11) dX11_noEye_11 cs_X11_105 (c_outside _ _ _) ⟨by decide, by decide⟩ (Nat.le_of_ble_eq_true rfl) ?_
  exact gq_zret (pc := 14) rfl (p_nt_b _) dX11_noEye_14 ⟨rfl, rfl⟩
set_option maxHeartbeats 400000 in
theorem c_noWearer (e : Int32) : ge_N X ge_SH YX11_noWearer 1 [.ref (ge_ad X.1 0), .int e] (ge_k g 25 r x hb) (some (.int (p_nt (p_in e 0 (r 3 - 1))))) (ge_k g 25 r x hb) := by
  refine gq_ofB (l := [(0, .ref (ge_ad X.1 0)), (1, .int e)]) (by decide) (Nat.le_of_ble_eq_true rfl) rfl ?_
  refine gq_iload_n (pc := 0) dX11_noWearer_0 rfl ?_
  refine gq_iconst (pc := 1) dX11_noWearer_1 kc_0 ?_
  refine gq_aload_n (pc := 2) dX11_noWearer_2 rfl ?_
  refine gq_getr (pc := 3) dX11_noWearer_3 fl_X11_60_11 sh_0 rfl ?_
  refine kq_get12 (pw := 25) (pc := 6) (by decide) dX11_noWearer_6 fl_X11_150_10 ?_
  refine gq_iconst (pc := 9) dX11_noWearer_9 kc_1 ?_
  refine gq_isub (pc := 10) dX11_noWearer_10 ?_
  refine gq_rS3i (pc := 11) dX11_noWearer_11 cs_X11_105 (c_outside _ _ _) ⟨by decide, by decide⟩ (Nat.le_of_ble_eq_true rfl) ?_
  exact gq_zret (pc := 14) rfl (p_nt_b _) dX11_noWearer_14 ⟨rfl, rfl⟩
set_option maxHeartbeats 400000 in
theorem c_error {k : Int32} {j : Nat} (hk : k = nI j) (hj : j < 6) : ge_N X ge_SH YX11_error 0 [.ref (ge_ad X.1 0), .int k] (ge_k g 25 r x hb) (some (.int (-1000000000 - k))) (ge_k (ge_up g 75 j (g 75 j + 1)) 25 r x hb) := by
  refine gq_ofB (l := [(0, .ref (ge_ad X.1 0)), (1, .int k)]) (by decide) (Nat.le_of_ble_eq_true rfl) rfl ?_
  refine gq_aload_n (pc := 0) dX11_error_0 rfl ?_
  refine gq_getr (pc := 1) dX11_error_1 fl_X11_93_11 sh_0 rfl ?_
  refine gq_iload_n (pc := 4) dX11_error_4 rfl ?_
  refine gq_dup2 (pc := 5) dX11_error_5 rfl rfl ?_
  refine kq_aldo (pw := 25) (pc := 6) (by decide) dX11_error_6 sh_75 (by decide) hk (by first | decide | omega) (by decide) ?_
  refine gq_iconst (pc := 7) dX11_error_7 kc_1 ?_
  refine gq_iadd (pc := 8) dX11_error_8 ?_
  refine kq_asto (pw := 25) (pc := 9) (by decide) dX11_error_9 sh_75 hk (by first | decide | omega) (by decide) ?_
  refine gq_ldcw (pc := 10) dX11_error_10 kn_X11_326 ?_
  refine gq_iload_n (pc := 13) dX11_error_13 rfl ?_
  refine gq_isub (pc := 14) dX11_error_14 ?_
  exact gq_iret (pc := 15) rfl dX11_error_15 ⟨rfl, rfl⟩
set_option maxHeartbeats 400000 in
theorem c_seed (v : Int32) : ge_N X ge_SH YX11_seed 0 [.ref (ge_ad X.1 0), .int v] (ge_k g 25 r x hb) (some (.int (r 1))) (ge_k g 25 (upd r 1 v) x hb) := by
  refine gq_ofB (l := [(0, .ref (ge_ad X.1 0)), (1, .int v)]) (by decide) (Nat.le_of_ble_eq_true rfl) rfl ?_
  refine gq_aload_n (pc := 0) dX11_seed_0 rfl ?_
  refine gq_getr (pc := 1) dX11_seed_1 fl_X11_60_11 sh_0 rfl ?_
  refine kq_get14 (pw := 25) (pc := 4) (by decide) dX11_seed_4 fl_X11_278_10 ?_
  refine gq_istore_n (pc := 7) (l' := [(2, _), (0, _), (1, _)]) dX11_seed_7 (by decide) rfl ?_
  refine gq_aload_n (pc := 8) dX11_seed_8 rfl ?_
  refine gq_getr (pc := 9) dX11_seed_9 fl_X11_60_11 sh_0 rfl ?_
  refine gq_iload_n (pc := 12) dX11_seed_12 rfl ?_
  refine kq_put14 (pw := 25) (pc := 13) (by decide) dX11_seed_13 fp_X11_278_10 ?_
  refine gq_iload_n (pc := 16) dX11_seed_16 rfl ?_
  exact gq_iret (pc := 17) rfl dX11_seed_17 ⟨rfl, rfl⟩
set_option maxHeartbeats 400000 in
theorem c_dread_ok {t v : Int32} {a b : Nat} (ha : t = nI a) (ha2 : a ≤ 9) (hb1 : v = nI b) (hb2 : b ≤ 9) : ge_N X ge_SH YX11_dread 2 [.ref (ge_ad X.1 0), .int t, .int v] (ge_k g 25 r x hb) (some (.int (r (8 + a)))) (ge_k g 25 (upd r (8 + a) v) x hb) := by
  refine gq_ofB (l := [(0, .ref (ge_ad X.1 0)), (1, .int t), (2, .int v)]) (by decide) (Nat.le_of_ble_eq_true rfl) rfl ?_
  refine gq_iload_n (pc := 0) dX11_dread_0 rfl ?_
  refine gq_rS1i (pc := 1) dX11_dread_1 cs_X11_101 (c_noThing _) ⟨by decide, by decide⟩ (Nat.le_of_ble_eq_true rfl) ?_
  refine gq_if_ne (pc := 4) 17 dX11_dread_4 (by decide) (fun h_4 => ?_) (fun h_4 => ?_)
  · exact absurd (p_nt_0.mpr (p_in_le (N := 9) ha ha2 (by decide))) h_4
  · refine gq_iload_n (pc := 7) dX11_dread_7 rfl ?_
    refine gq_iconst (pc := 8) dX11_dread_8 kc_0 ?_
    refine gq_bipush (pc := 9) dX11_dread_9 kb_9 ?_
    refine gq_rS3i (pc := 11) dX11_dread_11 cs_X11_105 (c_outside _ _ _) ⟨by decide, by decide⟩ (Nat.le_of_ble_eq_true rfl) ?_
    refine gq_if_eq (pc := 14) 23 dX11_dread_14 (by decide) (fun h_14 => ?_) (fun h_14 => ?_)
    · refine gq_aload_n (pc := 23) dX11_dread_23 rfl ?_
      refine gq_getr (pc := 24) dX11_dread_24 fl_X11_60_11 sh_0 rfl ?_
      refine gq_getr (pc := 27) dX11_dread_27 fl_X11_113_10 sh_25 rfl ?_
      refine gq_iload_n (pc := 30) dX11_dread_30 rfl ?_
      refine kq_ald1 (pw := 25) (pc := 31) (by decide) dX11_dread_31 ha (by first | decide | omega) ?_
      refine gq_istore_n (pc := 32) (l' := [(3, _), (0, _), (1, _), (2, _)]) dX11_dread_32 (by decide) rfl ?_
      refine gq_aload_n (pc := 33) dX11_dread_33 rfl ?_
      refine gq_getr (pc := 34) dX11_dread_34 fl_X11_60_11 sh_0 rfl ?_
      refine gq_getr (pc := 37) dX11_dread_37 fl_X11_113_10 sh_25 rfl ?_
      refine gq_iload_n (pc := 40) dX11_dread_40 rfl ?_
      refine gq_iload_n (pc := 41) dX11_dread_41 rfl ?_
      refine kq_ast1 (pw := 25) (pc := 42) (by decide) dX11_dread_42 ha (by first | decide | omega) ?_
      refine gq_iload_n (pc := 43) dX11_dread_43 rfl ?_
      exact gq_iret (pc := 44) rfl dX11_dread_44 ⟨rfl, rfl⟩
    · exact absurd (p_nt_0.mpr (p_in_le (N := 9) hb1 hb2 (by decide))) h_14
set_option maxHeartbeats 400000 in
theorem c_dread_er {t v : Int32} (h : p_in t 0 9 = 0 ∨ p_in v 0 9 = 0) : ge_N X ge_SH YX11_dread 2 [.ref (ge_ad X.1 0), .int t, .int v] (ge_k g 25 r x hb) (some (.int (-1000000000 - 1))) (ge_k (ge_up g 75 1 (g 75 1 + 1)) 25 r x hb) := by
  refine gq_ofB (l := [(0, .ref (ge_ad X.1 0)), (1, .int t), (2, .int v)]) (by decide) (Nat.le_of_ble_eq_true rfl) rfl ?_
  refine gq_iload_n (pc := 0) dX11_dread_0 rfl ?_
  refine gq_rS1i (pc := 1) dX11_dread_1 cs_X11_101 (c_noThing _) ⟨by decide, by decide⟩ (Nat.le_of_ble_eq_true rfl) ?_
  refine gq_if_ne (pc := 4) 17 dX11_dread_4 (by decide) (fun h_4 => ?_) (fun h_4 => ?_)
  · refine gq_aload_n (pc := 17) dX11_dread_17 rfl ?_
    refine gq_iconst (pc := 18) dX11_dread_18 kc_1 ?_
    refine gq_rV1i (pc := 19) dX11_dread_19 cv_X11_109 sh_0 (c_error kl_1 (by decide)) ⟨by decide, by decide⟩ rfl rfl (Nat.le_of_ble_eq_true rfl) ?_
    exact gq_iret (pc := 22) rfl dX11_dread_22 ⟨rfl, rfl⟩
  · refine gq_iload_n (pc := 7) dX11_dread_7 rfl ?_
    refine gq_iconst (pc := 8) dX11_dread_8 kc_0 ?_
    refine gq_bipush (pc := 9) dX11_dread_9 kb_9 ?_
    refine gq_rS3i (pc := 11) dX11_dread_11 cs_X11_105 (c_outside _ _ _) ⟨by decide, by decide⟩ (Nat.le_of_ble_eq_true rfl) ?_
    refine gq_if_eq (pc := 14) 23 dX11_dread_14 (by decide) (fun h_14 => ?_) (fun h_14 => ?_)
    · exact (h.elim (p_nt_0.mp h_4) (p_nt_0.mp h_14)).elim
    · refine gq_aload_n (pc := 17) dX11_dread_17 rfl ?_
      refine gq_iconst (pc := 18) dX11_dread_18 kc_1 ?_
      refine gq_rV1i (pc := 19) dX11_dread_19 cv_X11_109 sh_0 (c_error kl_1 (by decide)) ⟨by decide, by decide⟩ rfl rfl (Nat.le_of_ble_eq_true rfl) ?_
      exact gq_iret (pc := 22) rfl dX11_dread_22 ⟨rfl, rfl⟩
end F2
