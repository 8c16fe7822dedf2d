section M1
variable {X : ge_X} {g : ge_G} {r f : Nat → Int32}
def p_in (v a b : Int32) : Int32 := if v < a then 0 else if b < v then 0 else 1
theorem p_in_b (v a b : Int32) : narrow .boolean (.int (p_in v a b)) = .int (p_in v a b) := by
  unfold p_in; split
  · rfl
  · split <;> rfl
def p_held (v a b : Int32) : Int32 := if a ≤ v then (if v ≤ b then v else b) else a
/-- what an eye has, what a wearer has -/
def p_e (r : Nat → Int32) (e k : Nat) : Int32 := r (18 + 4 * e + k)
def p_o (r : Nat → Int32) (w k : Nat) : Int32 := r (50 + 4 * w + k)
def p_ue (r : Nat → Int32) (e k : Nat) (v : Int32) : Nat → Int32 := upd r (18 + 4 * e + k) v
def p_uo (r : Nat → Int32) (w k : Nat) (v : Int32) : Nat → Int32 := upd r (50 + 4 * w + k) v
set_option maxHeartbeats 400000 in
theorem k_in (v a b : Int32) : ge_N X ge_SH YX12_in 0 [.int v, .int a, .int b] g (some (.int (p_in v a b))) g := by
  refine gq_ofB (l := [(0, .int v), (1, .int a), (2, .int b)]) (by decide) (Nat.le_of_ble_eq_true rfl) rfl ?_
  refine gq_iload_n (pc := 0) dX12_in_0 rfl ?_
  refine gq_iload_n (pc := 1) dX12_in_1 rfl ?_
  refine gq_ic_lt (pc := 2) 14 dX12_in_2 (by decide) (fun h_2 => ?_) (fun h_2 => ?_)
  · refine gq_iconst (pc := 14) dX12_in_14 kc_0 ?_
    exact gq_zret (pc := 15) rfl rfl dX12_in_15 ⟨by simp only [p_in, *, if_true, if_false], rfl⟩
  · refine gq_iload_n (pc := 5) dX12_in_5 rfl ?_
    refine gq_iload_n (pc := 6) dX12_in_6 rfl ?_
    refine gq_ic_gt (pc := 7) 14 dX12_in_7 (by decide) (fun h_7 => ?_) (fun h_7 => ?_)
    · refine gq_iconst (pc := 14) dX12_in_14 kc_0 ?_
      exact gq_zret (pc := 15) rfl rfl dX12_in_15 ⟨by simp only [p_in, *, if_true, if_false], rfl⟩
    · refine gq_iconst (pc := 10) dX12_in_10 kc_1 ?_
      refine gq_goto (pc := 11) 15 dX12_in_11 (by decide) ?_
      exact gq_zret (pc := 15) rfl rfl dX12_in_15 ⟨by simp only [p_in, *, if_true, if_false], rfl⟩
set_option maxHeartbeats 400000 in
theorem k_held (v a b : Int32) : ge_N X ge_SH YX12_held 0 [.int v, .int a, .int b] g (some (.int (p_held v a b))) g := by
  refine gq_ofB (l := [(0, .int v), (1, .int a), (2, .int b)]) (by decide) (Nat.le_of_ble_eq_true rfl) rfl ?_
  refine gq_iload_n (pc := 0) dX12_held_0 rfl ?_
  refine gq_iload_n (pc := 1) dX12_held_1 rfl ?_
  refine gq_ic_ge (pc := 2) 9 dX12_held_2 (by decide) (fun h_2 => ?_) (fun h_2 => ?_)
  · refine gq_iload_n (pc := 9) dX12_held_9 rfl ?_
    refine gq_iload_n (pc := 10) dX12_held_10 rfl ?_
    refine gq_ic_le (pc := 11) 18 dX12_held_11 (by decide) (fun h_11 => ?_) (fun h_11 => ?_)
    · refine gq_iload_n (pc := 18) dX12_held_18 rfl ?_
      exact gq_iret (pc := 19) rfl dX12_held_19 ⟨by simp only [p_held, *, if_true, if_false], rfl⟩
    · refine gq_iload_n (pc := 14) dX12_held_14 rfl ?_
      refine gq_goto (pc := 15) 19 dX12_held_15 (by decide) ?_
      exact gq_iret (pc := 19) rfl dX12_held_19 ⟨by simp only [p_held, *, if_true, if_false], rfl⟩
  · refine gq_iload_n (pc := 5) dX12_held_5 rfl ?_
    refine gq_goto (pc := 6) 19 dX12_held_6 (by decide) ?_
    exact gq_iret (pc := 19) rfl dX12_held_19 ⟨by simp only [p_held, *, if_true, if_false], rfl⟩
set_option maxHeartbeats 400000 in
theorem k_isEye (e : Int32) : ge_N X ge_SH YX12_isEye 1 [.ref (ge_ad X.1 76), .int e] (ge_m g r f) (some (.int (p_in e 0 (r 2 - 1)))) (ge_m g r f) := by
  refine gq_ofB (l := [(0, .ref (ge_ad X.1 76)), (1, .int e)]) (by decide) (Nat.le_of_ble_eq_true rfl) rfl ?_
  refine gq_iload_n (pc := 0) dX12_isEye_0 rfl ?_
  refine gq_iconst (pc := 1) dX12_isEye_1 kc_0 ?_
  refine gq_aload_n (pc := 2) dX12_isEye_2 rfl ?_
  refine gq_getr (pc := 3) dX12_isEye_3 fl_X12_7_12 sh_76 rfl ?_
  refine gq_iconst (pc := 6) dX12_isEye_6 kc_2 ?_
  refine qm_ald (pc := 7) dX12_isEye_7 kl_2 (by first | decide | omega) ?_
  refine gq_iconst (pc := 8) dX12_isEye_8 kc_1 ?_
  refine gq_isub (pc := 9) dX12_isEye_9 ?_
  refine gq_rS3i (pc := 10) dX12_isEye_10 cs_X12_41 (k_in _ _ _) ⟨by decide, by decide⟩ (Nat.le_of_ble_eq_true rfl) ?_
  exact gq_zret (pc := 13) rfl (p_in_b _ _ _) dX12_isEye_13 ⟨rfl, rfl⟩
set_option maxHeartbeats 400000 in
theorem k_isWearer (e : Int32) : ge_N X ge_SH YX12_isWearer 1 [.ref (ge_ad X.1 76), .int e] (ge_m g r f) (some (.int (p_in e 0 (r 3 - 1)))) (ge_m g r f) := by
  refine gq_ofB (l := [(0, .ref (ge_ad X.1 76)), (1, .int e)]) (by decide) (Nat.le_of_ble_eq_true rfl) rfl ?_
  refine gq_iload_n (pc := 0) dX12_isWearer_0 rfl ?_
  refine gq_iconst (pc := 1) dX12_isWearer_1 kc_0 ?_
  refine gq_aload_n (pc := 2) dX12_isWearer_2 rfl ?_
  refine gq_getr (pc := 3) dX12_isWearer_3 fl_X12_7_12 sh_76 rfl ?_
  refine gq_iconst (pc := 6) dX12_isWearer_6 kc_3 ?_
  refine qm_ald (pc := 7) dX12_isWearer_7 kl_3 (by first | decide | omega) ?_
  refine gq_iconst (pc := 8) dX12_isWearer_8 kc_1 ?_
  refine gq_isub (pc := 9) dX12_isWearer_9 ?_
  refine gq_rS3i (pc := 10) dX12_isWearer_10 cs_X12_41 (k_in _ _ _) ⟨by decide, by decide⟩ (Nat.le_of_ble_eq_true rfl) ?_
  exact gq_zret (pc := 13) rfl (p_in_b _ _ _) dX12_isWearer_13 ⟨rfl, rfl⟩
set_option maxHeartbeats 400000 in
theorem k_isThing (e : Int32) : ge_N X ge_SH YX12_isThing 1 [.int e] g (some (.int (p_in e 0 9))) g := by
  refine gq_ofB (l := [(0, .int e)]) (by decide) (Nat.le_of_ble_eq_true rfl) rfl ?_
  refine gq_iload_n (pc := 0) dX12_isThing_0 rfl ?_
  refine gq_iconst (pc := 1) dX12_isThing_1 kc_0 ?_
  refine gq_bipush (pc := 2) dX12_isThing_2 kb_9 ?_
  refine gq_rS3i (pc := 4) dX12_isThing_4 cs_X12_41 (k_in _ _ _) ⟨by decide, by decide⟩ (Nat.le_of_ble_eq_true rfl) ?_
  exact gq_zret (pc := 7) rfl (p_in_b _ _ _) dX12_isThing_7 ⟨rfl, rfl⟩
set_option maxHeartbeats 400000 in
theorem k_isSheet (e : Int32) : ge_N X ge_SH YX12_isSheet 1 [.int e] g (some (.int (p_in e 0 3))) g := by
  refine gq_ofB (l := [(0, .int e)]) (by decide) (Nat.le_of_ble_eq_true rfl) rfl ?_
  refine gq_iload_n (pc := 0) dX12_isSheet_0 rfl ?_
  refine gq_iconst (pc := 1) dX12_isSheet_1 kc_0 ?_
  refine gq_iconst (pc := 2) dX12_isSheet_2 kc_3 ?_
  refine gq_rS3i (pc := 3) dX12_isSheet_3 cs_X12_41 (k_in _ _ _) ⟨by decide, by decide⟩ (Nat.le_of_ble_eq_true rfl) ?_
  exact gq_zret (pc := 6) rfl (p_in_b _ _ _) dX12_isSheet_6 ⟨rfl, rfl⟩
set_option maxHeartbeats 400000 in
theorem k_isDigit (e : Int32) : ge_N X ge_SH YX12_isDigit 1 [.int e] g (some (.int (p_in e 48 57))) g := by
  refine gq_ofB (l := [(0, .int e)]) (by decide) (Nat.le_of_ble_eq_true rfl) rfl ?_
  refine gq_iload_n (pc := 0) dX12_isDigit_0 rfl ?_
  refine gq_bipush (pc := 1) dX12_isDigit_1 kb_48 ?_
  refine gq_bipush (pc := 3) dX12_isDigit_3 kb_57 ?_
  refine gq_rS3i (pc := 5) dX12_isDigit_5 cs_X12_41 (k_in _ _ _) ⟨by decide, by decide⟩ (Nat.le_of_ble_eq_true rfl) ?_
  exact gq_zret (pc := 8) rfl (p_in_b _ _ _) dX12_isDigit_8 ⟨rfl, rfl⟩
set_option maxHeartbeats 400000 in
theorem k_its {e k : Int32} {j i : Nat} (he : e = nI j) (hk : k = nI i) (hb : 4 * j + i < 226) : ge_N X ge_SH YX12_its 0 [.ref (ge_ad X.1 76), .int e, .int k] (ge_m g r f) (some (.int (p_e r j i))) (ge_m g r f) := by
  refine gq_ofB (l := [(0, .ref (ge_ad X.1 76)), (1, .int e), (2, .int k)]) (by decide) (Nat.le_of_ble_eq_true rfl) rfl ?_
  refine gq_aload_n (pc := 0) dX12_its_0 rfl ?_
  refine gq_getr (pc := 1) dX12_its_1 fl_X12_7_12 sh_76 rfl ?_
  refine gq_bipush (pc := 4) dX12_its_4 kb_18 ?_
  refine gq_iconst (pc := 6) dX12_its_6 kc_4 ?_
  refine gq_iload_n (pc := 7) dX12_its_7 rfl ?_
  refine gq_imul (pc := 8) dX12_its_8 ?_
  refine gq_iadd (pc := 9) dX12_its_9 ?_
  refine gq_iload_n (pc := 10) dX12_its_10 rfl ?_
  refine gq_iadd (pc := 11) dX12_its_11 ?_
  refine qm_ald (pc := 12) dX12_its_12 (ge_nadd (ge_nadd kl_18 (ge_nmul kl_4 he)) hk) (by first | decide | omega) ?_
  exact gq_iret (pc := 13) rfl dX12_its_13 ⟨rfl, rfl⟩
set_option maxHeartbeats 400000 in
theorem k_ones {e k : Int32} {j i : Nat} (he : e = nI j) (hk : k = nI i) (hb : 4 * j + i < 194) : ge_N X ge_SH YX12_ones 0 [.ref (ge_ad X.1 76), .int e, .int k] (ge_m g r f) (some (.int (p_o r j i))) (ge_m g r f) := by
  refine gq_ofB (l := [(0, .ref (ge_ad X.1 76)), (1, .int e), (2, .int k)]) (by decide) (Nat.le_of_ble_eq_true rfl) rfl ?_
  refine gq_aload_n (pc := 0) dX12_ones_0 rfl ?_
  refine gq_getr (pc := 1) dX12_ones_1 fl_X12_7_12 sh_76 rfl ?_
  refine gq_bipush (pc := 4) dX12_ones_4 kb_50 ?_
  refine gq_iconst (pc := 6) dX12_ones_6 kc_4 ?_
  refine gq_iload_n (pc := 7) dX12_ones_7 rfl ?_
  refine gq_imul (pc := 8) dX12_ones_8 ?_
  refine gq_iadd (pc := 9) dX12_ones_9 ?_
  refine gq_iload_n (pc := 10) dX12_ones_10 rfl ?_
  refine gq_iadd (pc := 11) dX12_ones_11 ?_
  refine qm_ald (pc := 12) dX12_ones_12 (ge_nadd (ge_nadd kl_50 (ge_nmul kl_4 he)) hk) (by first | decide | omega) ?_
  exact gq_iret (pc := 13) rfl dX12_ones_13 ⟨rfl, rfl⟩
set_option maxHeartbeats 400000 in
theorem k_gets {e k v : Int32} {j i : Nat} (he : e = nI j) (hk : k = nI i) (hb : 4 * j + i < 226) : ge_N X ge_SH YX12_gets 0 [.ref (ge_ad X.1 76), .int e, .int k, .int v] (ge_m g r f) none (ge_m g (p_ue r j i v) f) := by
  refine gq_ofB (l := [(0, .ref (ge_ad X.1 76)), (1, .int e), (2, .int k), (3, .int v)]) (by decide) (Nat.le_of_ble_eq_true rfl) rfl ?_
  refine gq_aload_n (pc := 0) dX12_gets_0 rfl ?_
  refine gq_getr (pc := 1) dX12_gets_1 fl_X12_7_12 sh_76 rfl ?_
  refine gq_bipush (pc := 4) dX12_gets_4 kb_18 ?_
  refine gq_iconst (pc := 6) dX12_gets_6 kc_4 ?_
  refine gq_iload_n (pc := 7) dX12_gets_7 rfl ?_
  refine gq_imul (pc := 8) dX12_gets_8 ?_
  refine gq_iadd (pc := 9) dX12_gets_9 ?_
  refine gq_iload_n (pc := 10) dX12_gets_10 rfl ?_
  refine gq_iadd (pc := 11) dX12_gets_11 ?_
  refine gq_iload_n (pc := 12) dX12_gets_12 rfl ?_
  refine qm_ast (pc := 13) dX12_gets_13 (ge_nadd (ge_nadd kl_18 (ge_nmul kl_4 he)) hk) (by first | decide | omega) ?_
  exact gq_vret (pc := 14) rfl dX12_gets_14 ⟨rfl, rfl⟩
set_option maxHeartbeats 400000 in
theorem k_puts {e k v : Int32} {j i : Nat} (he : e = nI j) (hk : k = nI i) (hb : 4 * j + i < 194) : ge_N X ge_SH YX12_puts 0 [.ref (ge_ad X.1 76), .int e, .int k, .int v] (ge_m g r f) none (ge_m g (p_uo r j i v) f) := by
  refine gq_ofB (l := [(0, .ref (ge_ad X.1 76)), (1, .int e), (2, .int k), (3, .int v)]) (by decide) (Nat.le_of_ble_eq_true rfl) rfl ?_
  refine gq_aload_n (pc := 0) dX12_puts_0 rfl ?_
  refine gq_getr (pc := 1) dX12_puts_1 fl_X12_7_12 sh_76 rfl ?_
  refine gq_bipush (pc := 4) dX12_puts_4 kb_50 ?_
  refine gq_iconst (pc := 6) dX12_puts_6 kc_4 ?_
  refine gq_iload_n (pc := 7) dX12_puts_7 rfl ?_
  refine gq_imul (pc := 8) dX12_puts_8 ?_
  refine gq_iadd (pc := 9) dX12_puts_9 ?_
  refine gq_iload_n (pc := 10) dX12_puts_10 rfl ?_
  refine gq_iadd (pc := 11) dX12_puts_11 ?_
  refine gq_iload_n (pc := 12) dX12_puts_12 rfl ?_
  refine qm_ast (pc := 13) dX12_puts_13 (ge_nadd (ge_nadd kl_50 (ge_nmul kl_4 he)) hk) (by first | decide | omega) ?_
  exact gq_vret (pc := 14) rfl dX12_puts_14 ⟨rfl, rfl⟩
set_option maxHeartbeats 400000 in
theorem k_becomes {a v : Int32} {j : Nat} (he : a = nI j) (hb : j < 244) : ge_N X ge_SH YX12_becomes 0 [.ref (ge_ad X.1 76), .int a, .int v] (ge_m g r f) (some (.int (r j))) (ge_m g (upd r j v) f) := by
  refine gq_ofB (l := [(0, .ref (ge_ad X.1 76)), (1, .int a), (2, .int v)]) (by decide) (Nat.le_of_ble_eq_true rfl) rfl ?_
  refine gq_aload_n (pc := 0) dX12_becomes_0 rfl ?_
  refine gq_getr (pc := 1) dX12_becomes_1 fl_X12_7_12 sh_76 rfl ?_
  refine gq_iload_n (pc := 4) dX12_becomes_4 rfl ?_
  refine qm_ald (pc := 5) dX12_becomes_5 (by first | assumption | rfl) (by first | decide | omega) ?_
  refine gq_istore_n (pc := 6) (l' := [(3, _), (0, _), (1, _), (2, _)]) dX12_becomes_6 (by decide) rfl ?_
  refine gq_aload_n (pc := 7) dX12_becomes_7 rfl ?_
  refine gq_getr (pc := 8) dX12_becomes_8 fl_X12_7_12 sh_76 rfl ?_
  refine gq_iload_n (pc := 11) dX12_becomes_11 rfl ?_
  refine gq_iload_n (pc := 12) dX12_becomes_12 rfl ?_
  refine qm_ast (pc := 13) dX12_becomes_13 (by first | assumption | rfl) (by first | decide | omega) ?_
  refine gq_iload_n (pc := 14) dX12_becomes_14 rfl ?_
  exact gq_iret (pc := 15) rfl dX12_becomes_15 ⟨rfl, rfl⟩
set_option maxHeartbeats 400000 in
theorem k_errs {e : Int32} {j : Nat} (he : -1000000000 - e = nI j) (hb : j < 6) : ge_N X ge_SH YX12_errs 0 [.ref (ge_ad X.1 76), .int e] (ge_m g r f) (some (.int e)) (ge_m (ge_up g 81 j (g 81 j + 1)) r f) := by
  refine gq_ofB (l := [(0, .ref (ge_ad X.1 76)), (1, .int e)]) (by decide) (Nat.le_of_ble_eq_true rfl) rfl ?_
  refine gq_aload_n (pc := 0) dX12_errs_0 rfl ?_
  refine gq_getr (pc := 1) dX12_errs_1 fl_X12_22_12 sh_76 rfl ?_
  refine gq_ldc (pc := 4) dX12_errs_4 kn_X12_40 ?_
  refine gq_iload_n (pc := 6) dX12_errs_6 rfl ?_
  refine gq_isub (pc := 7) dX12_errs_7 ?_
  refine gq_dup2 (pc := 8) dX12_errs_8 rfl rfl ?_
  refine qm_aldo (pc := 9) dX12_errs_9 sh_81 (by decide) (by first | assumption | rfl) (by first | decide | omega) (by decide) ?_
  refine gq_iconst (pc := 10) dX12_errs_10 kc_1 ?_
  refine gq_iadd (pc := 11) dX12_errs_11 ?_
  refine qm_asto (pc := 12) dX12_errs_12 sh_81 (by decide) (by first | assumption | rfl) (by first | decide | omega) (by decide) ?_
  refine gq_iload_n (pc := 13) dX12_errs_13 rfl ?_
  exact gq_iret (pc := 14) rfl dX12_errs_14 ⟨rfl, rfl⟩
set_option maxHeartbeats 400000 in
theorem k_moveAll {a b : Nat} (ha : ge_SH[a]? = some (.inr (.inl 244))) (hb : ge_SH[b]? = some (.inr (.inl 244))) (hab : a ≠ b) (hz : a ≠ 17 ∧ a ≠ 76) : ge_N X ge_SH YX12_moveAll 0 [.ref (ge_ad X.1 76), .ref (ge_ad X.1 a), .ref (ge_ad X.1 b)] g none (ge_row g b (g a)) := by
  refine gq_ofB (l := [(0, .ref (ge_ad X.1 76)), (1, .ref (ge_ad X.1 a)), (2, .ref (ge_ad X.1 b))]) (by decide) (Nat.le_of_ble_eq_true rfl) rfl ?_
  have key : ∀ (n k : Nat), n = 244 - k → k ≤ 244 → ge_B X ge_SH YX12_moveAll 0 (fun v2 g2 => v2 = none ∧ g2 = ge_row g b (g a)) 2 [(3, .int (nI k)), (0, .ref (ge_ad X.1 76)), (1, .ref (ge_ad X.1 a)), (2, .ref (ge_ad X.1 b))] [] (ge_row g b (fun j => if j < k then g a j else g b j)) := by
    intro n
    induction n using Nat.strongRecOn with
    | ind n ih =>
      intro k hn hk
      refine gq_iload_n (pc := 2) dX12_moveAll_2 rfl ?_
      refine gq_sipush (pc := 3) dX12_moveAll_3 kq_244 ?_
      refine gq_ic_ge (pc := 6) 21 dX12_moveAll_6 (by decide) (fun h => ?_) (fun h => ?_)
      · have hk2 : 244 ≤ k := (nI_leI (a := 244) (by omega) (by omega)).mp h
        refine gq_eqv hb (f' := g a) (fun j hj => if_pos (by omega)) ?_
        exact gq_vret (pc := 21) rfl dX12_moveAll_21 ⟨rfl, rfl⟩
      · have hk2 : k < 244 := Nat.lt_of_not_le fun q => h ((nI_leI (a := 244) (by omega) (by omega)).mpr q)
        refine gq_aload_n (pc := 9) dX12_moveAll_9 rfl ?_
        refine gq_iload_n (pc := 10) dX12_moveAll_10 rfl ?_
        refine gq_aload_n (pc := 11) dX12_moveAll_11 rfl ?_
        refine gq_iload_n (pc := 12) dX12_moveAll_12 rfl ?_
        refine gq_ald (pc := 13) dX12_moveAll_13 ha hz rfl hk2 (by decide) ?_
        rw [ge_row_ne g _ hab]
        refine gq_ast (pc := 14) dX12_moveAll_14 hb rfl hk2 (by decide) ?_
        refine gq_iinc (pc := 15) (l' := [(3, _), (0, _), (1, _), (2, _)]) dX12_moveAll_15 rfl (ge_inc1 k) (by decide) rfl ?_
        refine gq_goto (pc := 18) 2 dX12_moveAll_18 (by decide) ?_
        refine gq_tog ?_ (ih (244 - (k + 1)) (by omega) (k + 1) rfl (by omega))
        unfold ge_up
        rw [ge_row_self]
        funext q
        by_cases hq : q = b
        · subst hq
          rw [ge_row_self, ge_row_self]
          funext j
          by_cases hj : j = k
          · subst hj; simp [upd]
          · by_cases hj2 : j < k
            · simp [upd, hj, hj2, Nat.lt_succ_of_lt hj2]
            · have : ¬ j < k + 1 := by omega
              simp [upd, hj, hj2, this]
        · simp [ge_row, hq]
  refine gq_iconst (pc := 0) dX12_moveAll_0 kc_0 ?_
  refine gq_istore_n (pc := 1) (l' := [(3, _), (0, _), (1, _), (2, _)]) dX12_moveAll_1 (by decide) rfl ?_
  refine gq_tog ?_ (key 244 0 rfl (by omega))
  funext q
  by_cases hq : q = b
  · subst hq; simp [ge_row]
  · simp [ge_row, hq]
theorem k_move_to {b : Nat} (hb : ge_SH[b]? = some (.inr (.inl 244))) (h1 : b ≠ 77) (h2 : b ≠ 76) : ge_N X ge_SH YX12_moveAll 0 [.ref (ge_ad X.1 76), .ref (ge_ad X.1 77), .ref (ge_ad X.1 b)] (ge_m g r f) none (ge_m (ge_row g b r) r f) :=
  gq_totog (by rw [ge_m_uo g r f h1 h2, ge_m_r]) (k_moveAll sh_77 hb (Ne.symm h1) (by decide))
theorem k_move_back {b : Nat} (hb : ge_SH[b]? = some (.inr (.inl 244))) (h1 : b ≠ 77) (h2 : b ≠ 76) (h3 : b ≠ 17) : ge_N X ge_SH YX12_moveAll 0 [.ref (ge_ad X.1 76), .ref (ge_ad X.1 b), .ref (ge_ad X.1 77)] (ge_m g r f) none (ge_m g (g b) f) :=
  gq_totog (by rw [ge_m_ur, ge_m_o g r f h1 h2]) (k_moveAll hb sh_77 h1 ⟨h3, h2⟩)
end M1
