section H3
variable {X : ge_X} {g : ge_G} {r f : Nat → Int32} {c : Nat}
theorem p_tks_in : ∀ w, w ≤ 6 → ∃ k, k < 2 ^ w ∧ p_tks r w = nI k := by
  intro w
  induction w with
  | zero => intro _; exact ⟨0, by decide, rfl⟩
  | succ w ih =>
    intro hw
    obtain ⟨k, hk, ek⟩ := ih (by omega)
    have h2 : 2 ^ w < 2 ^ (w + 1) := Nat.pow_lt_pow_right (by decide) (by omega)
    show ∃ k, k < 2 ^ (w + 1) ∧ p_tk (p_ones r w) w (p_tks r w) = nI k
    unfold p_tk
    rw [ek]
    split
    · exact ⟨k, by omega, rfl⟩
    · split
      · exact ⟨k ||| 2 ^ w, Nat.or_lt_two_pow (by omega) h2, by rw [p_bit_nI w (by omega), p_or_nI]⟩
      · exact ⟨k, by omega, rfl⟩
theorem p_T_in (hI : p_inv c r) : p_T r = nI (p_n (p_T r)) ∧ p_n (p_T r) < 64 := by
  obtain ⟨E, hE, e2, V, hV, e3, -⟩ := hI.2.2.2.1
  obtain ⟨k, hk, ek⟩ := p_tks_in (r := r) V hV
  have h2 : 2 ^ V ≤ 2 ^ 6 := Nat.pow_le_pow_right (by decide) hV
  have e : p_T r = nI k := by unfold p_T; rw [e3, p_n_nI (by omega)]; exact ek
  rw [e, p_n_nI (by omega)]
  exact ⟨rfl, by omega⟩
def p_pt (f r : Nat → Int32) : Nat → Int32
  | 0 => f 15
  | n + 1 => p_T (p_hrs r n)
def p_pb (f r : Nat → Int32) : Nat → Int32
  | 0 => f 16
  | n + 1 => p_Bo (p_hrs r n)
/-- how many took one out in n hours -/
def p_outs (r : Nat → Int32) : Nat → Nat
  | 0 => 0
  | n + 1 => p_outs r n + p_pop (p_n (p_T (p_hrs r n)))
set_option maxHeartbeats 1000000 in
theorem k_passes {n : Int32} {N : Nat} (hN : n = nI N) (hN2 : N ≤ 100) (hI : p_inv (c + N) r) : ge_N X ge_SH YX12_passes 44 [.ref (ge_ad X.1 76), .int n] (ge_m g r f) (some (.int (nI (p_outs r N)))) (ge_m g (p_hrs r N) (p_tb f (p_pt f r N) (p_pb f r N))) := by
  refine gq_ofB (l := [(0, .ref (ge_ad X.1 76)), (1, .int n)]) (by decide) (Nat.le_of_ble_eq_true rfl) rfl ?_
  have key : ∀ (m i : Nat), m = N - i → i ≤ N → ge_B X ge_SH YX12_passes 44 (fun v2 g2 => v2 = some (.int (nI (p_outs r N))) ∧ g2 = ge_m g (p_hrs r N) (p_tb f (p_pt f r N) (p_pb f r N))) 4 [(3, .int (nI i)), (2, .int (nI (p_outs r i))), (0, .ref (ge_ad X.1 76)), (1, .int n)] [] (ge_m g (p_hrs r i) (p_tb f (p_pt f r i) (p_pb f r i))) := by
    intro m
    induction m using Nat.strongRecOn with
    | ind m ih =>
      intro i hn hi
      refine gq_iload_n (pc := 4) dX12_passes_4 rfl ?_
      refine gq_iload_n (pc := 5) dX12_passes_5 rfl ?_
      refine gq_ic_ge (pc := 6) 29 dX12_passes_6 (by decide) (fun h_6 => ?_) (fun h_6 => ?_)
      · have hiV : i = N := by have := (nI_leI (by omega) (by omega)).mp (hN ▸ h_6); omega
        subst hiV
        refine gq_iload_n (pc := 29) dX12_passes_29 rfl ?_
        exact gq_iret (pc := 30) rfl dX12_passes_30 ⟨rfl, rfl⟩
      · have hiV : i < N := Nat.lt_of_not_le fun z => h_6 (by rw [hN]; exact (nI_leI (by omega) (by omega)).mpr z)
        have a := p_inv_hrs (c := c + N - i) i (r := r) (by rw [show c + N - i + i = c + N by omega]; exact hI)
        obtain ⟨t1, t2⟩ := p_T_in a
        refine gq_aload_n (pc := 9) dX12_passes_9 rfl ?_
        refine gq_rV0v (pc := 10) dX12_passes_10 cv_X12_188 sh_76 (k_oneHour a) ⟨by decide, by decide⟩ rfl rfl (Nat.le_of_ble_eq_true rfl) ?_
        refine gq_tog (g := ge_m g (p_hrs r (i + 1)) (p_tb f (p_pt f r (i + 1)) (p_pb f r (i + 1)))) (by rw [p_tb_tb]; rfl) ?_
        refine gq_iload_n (pc := 13) dX12_passes_13 rfl ?_
        refine gq_aload_n (pc := 14) dX12_passes_14 rfl ?_
        refine qw_get (v := p_T (p_hrs r i)) (pc := 15) dX12_passes_15 fl_X12_181_12 sh_76 rfl rfl (by decide) ?_
        refine gq_rS1i (pc := 18) dX12_passes_18 cs_X12_191 (k_bits t1 (by omega)) ⟨by decide, by decide⟩ (Nat.le_of_ble_eq_true rfl) ?_
        refine gq_iadd (pc := 21) dX12_passes_21 ?_
        rw [nI_add]
        refine gq_istore_n (pc := 22) (l' := [(2, _), (3, _), (0, _), (1, _)]) dX12_passes_22 (by decide) rfl ?_
        refine gq_iinc (pc := 23) (l' := [(3, _), (2, _), (0, _), (1, _)]) dX12_passes_23 rfl (ge_inc1 i) (by decide) rfl ?_
        refine gq_goto (pc := 26) 4 dX12_passes_26 (by decide) ?_
        exact ih (N - (i + 1)) (by omega) (i + 1) rfl (by omega)
  refine gq_iconst (pc := 0) dX12_passes_0 kc_0 ?_
  refine gq_istore_n (pc := 1) (l' := [(2, _), (0, _), (1, _)]) dX12_passes_1 (by decide) rfl ?_
  refine gq_iconst (pc := 2) dX12_passes_2 kc_0 ?_
  refine gq_istore_n (pc := 3) (l' := [(3, _), (2, _), (0, _), (1, _)]) dX12_passes_3 (by decide) rfl ?_
  refine gq_tog (g := ge_m g r (p_tb f (f 15) (f 16))) (by rw [p_tb_self]) ?_
  exact key N 0 rfl (Nat.zero_le _)
def p_sn (r : Nat → Int32) : Nat → Int32
  | 0 => 0
  | w + 1 => p_sn r w ||| p_o r w 3
set_option maxHeartbeats 1000000 in
theorem k_seenByAny {V : Nat} (hV : V ≤ 6) (e3 : r 3 = nI V) : ge_N X ge_SH YX12_seenByAny 1 [.ref (ge_ad X.1 76)] (ge_m g r f) (some (.int (p_sn r V))) (ge_m g r f) := by
  refine gq_ofB (l := [(0, .ref (ge_ad X.1 76))]) (by decide) (Nat.le_of_ble_eq_true rfl) rfl ?_
  have key : ∀ (n i : Nat), n = V - i → i ≤ V → ge_B X ge_SH YX12_seenByAny 1 (fun v2 g2 => v2 = some (.int (p_sn r V)) ∧ g2 = ge_m g r f) 4 [(2, .int (nI i)), (1, .int (p_sn r i)), (0, .ref (ge_ad X.1 76))] [] (ge_m g r f) := by
    intro n
    induction n using Nat.strongRecOn with
    | ind n ih =>
      intro i hn hi
      refine gq_iload_n (pc := 4) dX12_seenByAny_4 rfl ?_
      refine gq_aload_n (pc := 5) dX12_seenByAny_5 rfl ?_
      refine gq_getr (pc := 6) dX12_seenByAny_6 fl_X12_7_12 sh_76 rfl ?_
      refine gq_iconst (pc := 9) dX12_seenByAny_9 kc_3 ?_
      refine qm_ald (pc := 10) dX12_seenByAny_10 kl_3 (by first | decide | omega) ?_
      rw [e3]
      refine gq_ic_ge (pc := 11) 29 dX12_seenByAny_11 (by decide) (fun h_11 => ?_) (fun h_11 => ?_)
      · have hiV : i = V := by have := (nI_leI (by omega) (by omega)).mp (h_11); omega
        subst hiV
        refine gq_iload_n (pc := 29) dX12_seenByAny_29 rfl ?_
        exact gq_iret (pc := 30) rfl dX12_seenByAny_30 ⟨rfl, rfl⟩
      · have hiV : i < V := Nat.lt_of_not_le fun z => h_11 ((nI_leI (by omega) (by omega)).mpr z)
        refine gq_iload_n (pc := 14) dX12_seenByAny_14 rfl ?_
        refine gq_aload_n (pc := 15) dX12_seenByAny_15 rfl ?_
        refine gq_iload_n (pc := 16) dX12_seenByAny_16 rfl ?_
        refine gq_iconst (pc := 17) dX12_seenByAny_17 kc_3 ?_
        refine gq_rV2i (pc := 18) dX12_seenByAny_18 cv_X12_63 sh_76 (k_ones (by first | assumption | rfl) kl_3 (by omega)) ⟨by decide, by decide⟩ rfl rfl (Nat.le_of_ble_eq_true rfl) ?_
        refine gq_ior (pc := 21) dX12_seenByAny_21 ?_
        refine gq_istore_n (pc := 22) (l' := [(1, _), (2, _), (0, _)]) dX12_seenByAny_22 (by decide) rfl ?_
        refine gq_iinc (pc := 23) (l' := [(2, _), (1, _), (0, _)]) dX12_seenByAny_23 rfl (ge_inc1 i) (by decide) rfl ?_
        refine gq_goto (pc := 26) 4 dX12_seenByAny_26 (by decide) ?_
        exact ih (V - (i + 1)) (by omega) (i + 1) rfl (by omega)
  refine gq_iconst (pc := 0) dX12_seenByAny_0 kc_0 ?_
  refine gq_istore_n (pc := 1) (l' := [(1, _), (0, _)]) dX12_seenByAny_1 (by decide) rfl ?_
  refine gq_iconst (pc := 2) dX12_seenByAny_2 kc_0 ?_
  refine gq_istore_n (pc := 3) (l' := [(2, _), (1, _), (0, _)]) dX12_seenByAny_3 (by decide) rfl ?_
  exact key V 0 rfl (Nat.zero_le _)
def p_bs (r : Nat → Int32) : Nat → Int32
  | 0 => 0
  | w + 1 => p_bs r w + p_o r w 2
set_option maxHeartbeats 1000000 in
theorem k_bearsOfAll {V : Nat} (hV : V ≤ 6) (e3 : r 3 = nI V) : ge_N X ge_SH YX12_bearsOfAll 1 [.ref (ge_ad X.1 76)] (ge_m g r f) (some (.int (p_bs r V))) (ge_m g r f) := by
  refine gq_ofB (l := [(0, .ref (ge_ad X.1 76))]) (by decide) (Nat.le_of_ble_eq_true rfl) rfl ?_
  have key : ∀ (n i : Nat), n = V - i → i ≤ V → ge_B X ge_SH YX12_bearsOfAll 1 (fun v2 g2 => v2 = some (.int (p_bs r V)) ∧ g2 = ge_m g r f) 4 [(2, .int (nI i)), (1, .int (p_bs r i)), (0, .ref (ge_ad X.1 76))] [] (ge_m g r f) := by
    intro n
    induction n using Nat.strongRecOn with
    | ind n ih =>
      intro i hn hi
      refine gq_iload_n (pc := 4) dX12_bearsOfAll_4 rfl ?_
      refine gq_aload_n (pc := 5) dX12_bearsOfAll_5 rfl ?_
      refine gq_getr (pc := 6) dX12_bearsOfAll_6 fl_X12_7_12 sh_76 rfl ?_
      refine gq_iconst (pc := 9) dX12_bearsOfAll_9 kc_3 ?_
      refine qm_ald (pc := 10) dX12_bearsOfAll_10 kl_3 (by first | decide | omega) ?_
      rw [e3]
      refine gq_ic_ge (pc := 11) 29 dX12_bearsOfAll_11 (by decide) (fun h_11 => ?_) (fun h_11 => ?_)
      · have hiV : i = V := by have := (nI_leI (by omega) (by omega)).mp (h_11); omega
        subst hiV
        refine gq_iload_n (pc := 29) dX12_bearsOfAll_29 rfl ?_
        exact gq_iret (pc := 30) rfl dX12_bearsOfAll_30 ⟨rfl, rfl⟩
      · have hiV : i < V := Nat.lt_of_not_le fun z => h_11 ((nI_leI (by omega) (by omega)).mpr z)
        refine gq_iload_n (pc := 14) dX12_bearsOfAll_14 rfl ?_
        refine gq_aload_n (pc := 15) dX12_bearsOfAll_15 rfl ?_
        refine gq_iload_n (pc := 16) dX12_bearsOfAll_16 rfl ?_
        refine gq_iconst (pc := 17) dX12_bearsOfAll_17 kc_2 ?_
        refine gq_rV2i (pc := 18) dX12_bearsOfAll_18 cv_X12_63 sh_76 (k_ones (by first | assumption | rfl) kl_2 (by omega)) ⟨by decide, by decide⟩ rfl rfl (Nat.le_of_ble_eq_true rfl) ?_
        refine gq_iadd (pc := 21) dX12_bearsOfAll_21 ?_
        refine gq_istore_n (pc := 22) (l' := [(1, _), (2, _), (0, _)]) dX12_bearsOfAll_22 (by decide) rfl ?_
        refine gq_iinc (pc := 23) (l' := [(2, _), (1, _), (0, _)]) dX12_bearsOfAll_23 rfl (ge_inc1 i) (by decide) rfl ?_
        refine gq_goto (pc := 26) 4 dX12_bearsOfAll_26 (by decide) ?_
        exact ih (V - (i + 1)) (by omega) (i + 1) rfl (by omega)
  refine gq_iconst (pc := 0) dX12_bearsOfAll_0 kc_0 ?_
  refine gq_istore_n (pc := 1) (l' := [(1, _), (0, _)]) dX12_bearsOfAll_1 (by decide) rfl ?_
  refine gq_iconst (pc := 2) dX12_bearsOfAll_2 kc_0 ?_
  refine gq_istore_n (pc := 3) (l' := [(2, _), (1, _), (0, _)]) dX12_bearsOfAll_3 (by decide) rfl ?_
  exact key V 0 rfl (Nat.zero_le _)
def p_ws (r : Nat → Int32) (V : Nat) : Nat → Int32
  | 0 => 0
  | e + 1 => p_ws r V e ||| (if 0 ≤ p_wb r (nI e) V then (1 : Int32) <<< (nI e &&& 31) else 0)
set_option maxHeartbeats 1000000 in
theorem k_wornSet {V E : Nat} (hV : V ≤ 6) (e3 : r 3 = nI V) (hE : E ≤ 8) (e2 : r 2 = nI E) : ge_N X ge_SH YX12_wornSet 2 [.ref (ge_ad X.1 76)] (ge_m g r f) (some (.int (p_ws r V E))) (ge_m g r f) := by
  refine gq_ofB (l := [(0, .ref (ge_ad X.1 76))]) (by decide) (Nat.le_of_ble_eq_true rfl) rfl ?_
  have key : ∀ (n i : Nat), n = E - i → i ≤ E → ge_B X ge_SH YX12_wornSet 2 (fun v2 g2 => v2 = some (.int (p_ws r V E)) ∧ g2 = ge_m g r f) 4 [(2, .int (nI i)), (1, .int (p_ws r V i)), (0, .ref (ge_ad X.1 76))] [] (ge_m g r f) := by
    intro n
    induction n using Nat.strongRecOn with
    | ind n ih =>
      intro i hn hi
      refine gq_iload_n (pc := 4) dX12_wornSet_4 rfl ?_
      refine gq_aload_n (pc := 5) dX12_wornSet_5 rfl ?_
      refine gq_getr (pc := 6) dX12_wornSet_6 fl_X12_7_12 sh_76 rfl ?_
      refine gq_iconst (pc := 9) dX12_wornSet_9 kc_2 ?_
      refine qm_ald (pc := 10) dX12_wornSet_10 kl_2 (by first | decide | omega) ?_
      rw [e2]
      refine gq_ic_ge (pc := 11) 38 dX12_wornSet_11 (by decide) (fun h_11 => ?_) (fun h_11 => ?_)
      · have hiV : i = E := by have := (nI_leI (by omega) (by omega)).mp (h_11); omega
        subst hiV
        refine gq_iload_n (pc := 38) dX12_wornSet_38 rfl ?_
        exact gq_iret (pc := 39) rfl dX12_wornSet_39 ⟨rfl, rfl⟩
      · have hiV : i < E := Nat.lt_of_not_le fun z => h_11 ((nI_leI (by omega) (by omega)).mpr z)
        refine gq_iload_n (pc := 14) dX12_wornSet_14 rfl ?_
        refine gq_aload_n (pc := 15) dX12_wornSet_15 rfl ?_
        refine gq_iload_n (pc := 16) dX12_wornSet_16 rfl ?_
        refine gq_rV1i (pc := 17) dX12_wornSet_17 cv_X12_72 sh_76 (k_wornBy hV e3) ⟨by decide, by decide⟩ rfl rfl (Nat.le_of_ble_eq_true rfl) ?_
        refine gq_cutz (J := 30) ((if 0 ≤ p_wb r (nI i) V then (1 : Int32) <<< (nI i &&& 31) else 0)) ?_ (fun J_30 => ?_)
        · refine gq_ior (pc := 30) dX12_wornSet_30 ?_
          refine gq_istore_n (pc := 31) (l' := [(1, _), (2, _), (0, _)]) dX12_wornSet_31 (by decide) rfl ?_
          refine gq_iinc (pc := 32) (l' := [(2, _), (1, _), (0, _)]) dX12_wornSet_32 rfl (ge_inc1 i) (by decide) rfl ?_
          refine gq_goto (pc := 35) 4 dX12_wornSet_35 (by decide) ?_
          exact ih (E - (i + 1)) (by omega) (i + 1) rfl (by omega)
        · refine gq_if_ge (pc := 20) 27 dX12_wornSet_20 (by decide) (fun h_20 => ?_) (fun h_20 => ?_)
          · refine gq_iconst (pc := 27) dX12_wornSet_27 kc_1 ?_
            refine gq_iload_n (pc := 28) dX12_wornSet_28 rfl ?_
            refine gq_ishl (pc := 29) dX12_wornSet_29 ?_
            (refine gq_tov ?_ J_30; first | rw [if_pos h_20] | rw [if_neg h_20])
          · refine gq_iconst (pc := 23) dX12_wornSet_23 kc_0 ?_
            refine gq_goto (pc := 24) 30 dX12_wornSet_24 (by decide) ?_
            (refine gq_tov ?_ J_30; first | rw [if_pos h_20] | rw [if_neg h_20])
  refine gq_iconst (pc := 0) dX12_wornSet_0 kc_0 ?_
  refine gq_istore_n (pc := 1) (l' := [(1, _), (0, _)]) dX12_wornSet_1 (by decide) rfl ?_
  refine gq_iconst (pc := 2) dX12_wornSet_2 kc_0 ?_
  refine gq_istore_n (pc := 3) (l' := [(2, _), (1, _), (0, _)]) dX12_wornSet_3 (by decide) rfl ?_
  exact key E 0 rfl (Nat.zero_le _)
def p_sw1 (r : Nat → Int32) (w o s : Nat) : Nat → Int32 := p_uo (p_uo r w s (p_o r o s)) o s (p_o r w s)
def p_swap (r : Nat → Int32) (w o : Nat) : Nat → Int32 := p_sw1 (p_sw1 r w o 0) w o 1
set_option maxHeartbeats 400000 in
theorem k_swaps {w o : Int32} {i j : Nat} (hw : w = nI i) (ho : o = nI j) (hi : i < 6) (hj : j < 6) : ge_N X ge_SH YX12_swaps 1 [.ref (ge_ad X.1 76), .int w, .int o] (ge_m g r f) none (ge_m g (p_swap r i j) f) := by
  refine gq_ofB (l := [(0, .ref (ge_ad X.1 76)), (1, .int w), (2, .int o)]) (by decide) (Nat.le_of_ble_eq_true rfl) rfl ?_
  refine gq_iconst (pc := 0) dX12_swaps_0 kc_0 ?_
  refine gq_istore_n (pc := 1) (l' := [(3, _), (0, _), (1, _), (2, _)]) dX12_swaps_1 (by decide) rfl ?_
  refine gq_iload_n (pc := 2) dX12_swaps_2 rfl ?_
  refine gq_iconst (pc := 3) dX12_swaps_3 kc_1 ?_
  refine gq_ic_gt (pc := 4) 41 dX12_swaps_4 (by decide) (fun h_4 => ?_) (fun h_4 => ?_)
  · exact absurd h_4 (by decide)
  · refine gq_aload_n (pc := 7) dX12_swaps_7 rfl ?_
    refine gq_iload_n (pc := 8) dX12_swaps_8 rfl ?_
    refine gq_iload_n (pc := 9) dX12_swaps_9 rfl ?_
    refine gq_rV2i (pc := 10) dX12_swaps_10 cv_X12_63 sh_76 (k_ones (by first | assumption | rfl) kl_0 (by omega)) ⟨by decide, by decide⟩ rfl rfl (Nat.le_of_ble_eq_true rfl) ?_
    refine gq_istore (pc := 13) (l' := [(4, _), (3, _), (0, _), (1, _), (2, _)]) dX12_swaps_13 (by decide) rfl ?_
    refine gq_aload_n (pc := 15) dX12_swaps_15 rfl ?_
    refine gq_iload_n (pc := 16) dX12_swaps_16 rfl ?_
    refine gq_iload_n (pc := 17) dX12_swaps_17 rfl ?_
    refine gq_aload_n (pc := 18) dX12_swaps_18 rfl ?_
    refine gq_iload_n (pc := 19) dX12_swaps_19 rfl ?_
    refine gq_iload_n (pc := 20) dX12_swaps_20 rfl ?_
    refine gq_rV2i (pc := 21) dX12_swaps_21 cv_X12_63 sh_76 (k_ones (by first | assumption | rfl) kl_0 (by omega)) ⟨by decide, by decide⟩ rfl rfl (Nat.le_of_ble_eq_true rfl) ?_
    refine gq_rV3v (pc := 24) dX12_swaps_24 cv_X12_81 sh_76 (k_puts (by first | assumption | rfl) kl_0 (by omega)) ⟨by decide, by decide⟩ rfl rfl (Nat.le_of_ble_eq_true rfl) ?_
    refine gq_aload_n (pc := 27) dX12_swaps_27 rfl ?_
    refine gq_iload_n (pc := 28) dX12_swaps_28 rfl ?_
    refine gq_iload_n (pc := 29) dX12_swaps_29 rfl ?_
    refine gq_iload (pc := 30) dX12_swaps_30 rfl ?_
    refine gq_rV3v (pc := 32) dX12_swaps_32 cv_X12_81 sh_76 (k_puts (by first | assumption | rfl) kl_0 (by omega)) ⟨by decide, by decide⟩ rfl rfl (Nat.le_of_ble_eq_true rfl) ?_
    refine gq_iinc (pc := 35) (l' := [(3, _), (4, _), (0, _), (1, _), (2, _)]) dX12_swaps_35 rfl (by decide : (0 : Int32) + Int32.ofInt 1 = 1) (by decide) rfl ?_
    refine gq_goto (pc := 38) 2 dX12_swaps_38 (by decide) ?_
    refine gq_iload_n (pc := 2) dX12_swaps_2 rfl ?_
    refine gq_iconst (pc := 3) dX12_swaps_3 kc_1 ?_
    refine gq_ic_gt (pc := 4) 41 dX12_swaps_4 (by decide) (fun h_4 => ?_) (fun h_4 => ?_)
    · exact absurd h_4 (by decide)
    · refine gq_aload_n (pc := 7) dX12_swaps_7 rfl ?_
      refine gq_iload_n (pc := 8) dX12_swaps_8 rfl ?_
      refine gq_iload_n (pc := 9) dX12_swaps_9 rfl ?_
      refine gq_rV2i (pc := 10) dX12_swaps_10 cv_X12_63 sh_76 (k_ones (by first | assumption | rfl) kl_1 (by omega)) ⟨by decide, by decide⟩ rfl rfl (Nat.le_of_ble_eq_true rfl) ?_
      refine gq_istore (pc := 13) (l' := [(4, _), (3, _), (0, _), (1, _), (2, _)]) dX12_swaps_13 (by decide) rfl ?_
      refine gq_aload_n (pc := 15) dX12_swaps_15 rfl ?_
      refine gq_iload_n (pc := 16) dX12_swaps_16 rfl ?_
      refine gq_iload_n (pc := 17) dX12_swaps_17 rfl ?_
      refine gq_aload_n (pc := 18) dX12_swaps_18 rfl ?_
      refine gq_iload_n (pc := 19) dX12_swaps_19 rfl ?_
      refine gq_iload_n (pc := 20) dX12_swaps_20 rfl ?_
      refine gq_rV2i (pc := 21) dX12_swaps_21 cv_X12_63 sh_76 (k_ones (by first | assumption | rfl) kl_1 (by omega)) ⟨by decide, by decide⟩ rfl rfl (Nat.le_of_ble_eq_true rfl) ?_
      refine gq_rV3v (pc := 24) dX12_swaps_24 cv_X12_81 sh_76 (k_puts (by first | assumption | rfl) kl_1 (by omega)) ⟨by decide, by decide⟩ rfl rfl (Nat.le_of_ble_eq_true rfl) ?_
      refine gq_aload_n (pc := 27) dX12_swaps_27 rfl ?_
      refine gq_iload_n (pc := 28) dX12_swaps_28 rfl ?_
      refine gq_iload_n (pc := 29) dX12_swaps_29 rfl ?_
      refine gq_iload (pc := 30) dX12_swaps_30 rfl ?_
      refine gq_rV3v (pc := 32) dX12_swaps_32 cv_X12_81 sh_76 (k_puts (by first | assumption | rfl) kl_1 (by omega)) ⟨by decide, by decide⟩ rfl rfl (Nat.le_of_ble_eq_true rfl) ?_
      refine gq_iinc (pc := 35) (l' := [(3, _), (4, _), (0, _), (1, _), (2, _)]) dX12_swaps_35 rfl (by decide : (1 : Int32) + Int32.ofInt 1 = 2) (by decide) rfl ?_
      refine gq_goto (pc := 38) 2 dX12_swaps_38 (by decide) ?_
      refine gq_iload_n (pc := 2) dX12_swaps_2 rfl ?_
      refine gq_iconst (pc := 3) dX12_swaps_3 kc_1 ?_
      refine gq_ic_gt (pc := 4) 41 dX12_swaps_4 (by decide) (fun h_4 => ?_) (fun h_4 => ?_)
      · exact gq_vret (pc := 41) rfl dX12_swaps_41 ⟨rfl, rfl⟩
      · exact absurd h_4 (by decide)
def p_nar (b v : Int32) : Int32 := if b = 8 then v.toInt8.toInt32 else if b = 16 then v.toInt16.toInt32 else v
set_option maxHeartbeats 400000 in
theorem k_narrow (b v : Int32) : ge_N X ge_SH YX12_narrow 0 [.int b, .int v] g (some (.int (p_nar b v))) g := by
  refine gq_ofB (l := [(0, .int b), (1, .int v)]) (by decide) (Nat.le_of_ble_eq_true rfl) rfl ?_
  refine gq_iload_n (pc := 0) dX12_narrow_0 rfl ?_
  refine gq_bipush (pc := 1) dX12_narrow_1 kb_8 ?_
  refine gq_ic_ne (pc := 3) 11 dX12_narrow_3 (by decide) (fun h_3 => ?_) (fun h_3 => ?_)
  · refine gq_iload_n (pc := 11) dX12_narrow_11 rfl ?_
    refine gq_bipush (pc := 12) dX12_narrow_12 kb_16 ?_
    refine gq_ic_ne (pc := 14) 22 dX12_narrow_14 (by decide) (fun h_14 => ?_) (fun h_14 => ?_)
    · refine gq_iload_n (pc := 22) dX12_narrow_22 rfl ?_
      exact gq_iret (pc := 23) rfl dX12_narrow_23 ⟨by unfold p_nar; first | rw [if_pos h_3] | rw [if_neg h_3, if_pos h_14] | rw [if_neg h_3, if_neg h_14], rfl⟩
    · refine gq_iload_n (pc := 17) dX12_narrow_17 rfl ?_
      refine gq_i2s (pc := 18) dX12_narrow_18 ?_
      refine gq_goto (pc := 19) 23 dX12_narrow_19 (by decide) ?_
      exact gq_iret (pc := 23) rfl dX12_narrow_23 ⟨by unfold p_nar; first | rw [if_pos h_3] | rw [if_neg h_3, if_pos h_14] | rw [if_neg h_3, if_neg h_14], rfl⟩
  · refine gq_iload_n (pc := 6) dX12_narrow_6 rfl ?_
    refine gq_i2b (pc := 7) dX12_narrow_7 ?_
    refine gq_goto (pc := 8) 23 dX12_narrow_8 (by decide) ?_
    exact gq_iret (pc := 23) rfl dX12_narrow_23 ⟨by unfold p_nar; first | rw [if_pos h_3] | rw [if_neg h_3, if_pos h_14] | rw [if_neg h_3, if_neg h_14], rfl⟩
set_option maxHeartbeats 1000000 in
theorem k_divisor {a b : Int32} {x0 y0 : Nat} (ha : a = nI x0) (hb : b = nI y0) (hx0 : x0 < 1000) (hy0 : y0 < 1000) : ge_N X ge_SH YX12_divisor 0 [.int a, .int b] g (some (.int (nI (Nat.gcd x0 y0)))) g := by
  refine gq_ofB (l := [(0, .int a), (1, .int b)]) (by decide) (Nat.le_of_ble_eq_true rfl) rfl ?_
  have key : ∀ (y x : Nat), x < 1000 → y < 1000 → Nat.gcd x y = Nat.gcd x0 y0 → ge_B X ge_SH YX12_divisor 0 (fun v2 g2 => v2 = some (.int (nI (Nat.gcd x0 y0))) ∧ g2 = g) 4 [(3, .int (nI y)), (2, .int (nI x)), (0, .int a), (1, .int b)] [] g := by
    intro y
    induction y using Nat.strongRecOn with
    | ind y ih =>
      intro x hx hy hg
      refine gq_iload_n (pc := 4) dX12_divisor_4 rfl ?_
      refine gq_if_eq (pc := 5) 21 dX12_divisor_5 (by decide) (fun h_5 => ?_) (fun h_5 => ?_)
      · obtain rfl : y = 0 := (nI_eq (b := 0) (by omega) (by omega)).mp h_5
        rw [Nat.gcd_zero_right] at hg
        subst hg
        refine gq_iload_n (pc := 21) dX12_divisor_21 rfl ?_
        exact gq_iret (pc := 22) rfl dX12_divisor_22 ⟨rfl, rfl⟩
      · have hy1 : y ≠ 0 := fun z => h_5 (by rw [z]; rfl)
        refine gq_iload_n (pc := 8) dX12_divisor_8 rfl ?_
        refine gq_iload_n (pc := 9) dX12_divisor_9 rfl ?_
        refine gq_irem (pc := 10) dX12_divisor_10 h_5 (p_rem_nI (by omega) (by omega) (by omega)) ?_
        refine gq_istore (pc := 11) (l' := [(4, _), (3, _), (2, _), (0, _), (1, _)]) dX12_divisor_11 (by decide) rfl ?_
        refine gq_iload_n (pc := 13) dX12_divisor_13 rfl ?_
        refine gq_istore_n (pc := 14) (l' := [(2, _), (4, _), (3, _), (0, _), (1, _)]) dX12_divisor_14 (by decide) rfl ?_
        refine gq_iload (pc := 15) dX12_divisor_15 rfl ?_
        refine gq_istore_n (pc := 17) (l' := [(3, _), (2, _), (4, _), (0, _), (1, _)]) dX12_divisor_17 (by decide) rfl ?_
        refine gq_goto (pc := 18) 4 dX12_divisor_18 (by decide) ?_
        refine gq_sub [0, 1, 3, 4] rfl ?_
        exact ih (x % y) (Nat.mod_lt _ (by omega)) y hy (by have := Nat.mod_lt x (show 0 < y by omega); omega) (by rw [← hg, Nat.gcd_comm x y, Nat.gcd_rec y x, Nat.gcd_comm])
  refine gq_iload_n (pc := 0) dX12_divisor_0 rfl ?_
  rw [ha]
  refine gq_istore_n (pc := 1) (l' := [(2, _), (0, _), (1, _)]) dX12_divisor_1 (by decide) rfl ?_
  refine gq_iload_n (pc := 2) dX12_divisor_2 rfl ?_
  rw [hb]
  refine gq_istore_n (pc := 3) (l' := [(3, _), (2, _), (0, _), (1, _)]) dX12_divisor_3 (by decide) rfl ?_
  rw [← ha, ← hb]
  exact (by have := key y0 x0 hx0 hy0 rfl; rw [ha, hb] at this ⊢; exact this)
end H3
