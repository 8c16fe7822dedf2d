section H2
variable {X : ge_X} {g : ge_G} {r f : Nat → Int32} {c : Nat}
set_option maxHeartbeats 1000000 in
theorem k_oneHour (hI : p_inv c r) : ge_N X ge_SH YX12_oneHour 43 [.ref (ge_ad X.1 76)] (ge_m g r f) none (ge_m g (p_hour r) (p_tb f (p_T r) (p_Bo r))) := by
  refine gq_ofB (l := [(0, .ref (ge_ad X.1 76))]) (by decide) (Nat.le_of_ble_eq_true rfl) rfl ?_
  obtain ⟨E, hE, e2, V, hV, e3, -⟩ := hI.2.2.2.1
  have key : ∀ (n i : Nat), n = V - i → i ≤ V → ge_B X ge_SH YX12_oneHour 43 (fun v2 g2 => v2 = none ∧ g2 = ge_m g (p_hour r) (p_tb f (p_T r) (p_Bo r))) 12 [(1, .int (nI i)), (0, .ref (ge_ad X.1 76))] [] (ge_m g (p_ones r i) (p_tb f (p_tks r i) (p_brs r i))) := by
    intro n
    induction n using Nat.strongRecOn with
    | ind n ih =>
      intro i hn hi
      refine gq_iload_n (pc := 12) dX12_oneHour_12 rfl ?_
      refine gq_aload_n (pc := 13) dX12_oneHour_13 rfl ?_
      refine gq_getr (pc := 14) dX12_oneHour_14 fl_X12_7_12 sh_76 rfl ?_
      refine gq_iconst (pc := 17) dX12_oneHour_17 kc_3 ?_
      refine qm_ald (pc := 18) dX12_oneHour_18 kl_3 (by first | decide | omega) ?_
      rw [p_lo_ones 3 (by omega), e3]
      refine gq_ic_ge (pc := 19) 67 dX12_oneHour_19 (by decide) (fun h_19 => ?_) (fun h_19 => ?_)
      · have hiV : i = V := by have := (nI_leI (by omega) (by omega)).mp h_19; omega
        subst hiV
        refine gq_aload_n (pc := 67) dX12_oneHour_67 rfl ?_
        refine gq_getr (pc := 68) dX12_oneHour_68 fl_X12_7_12 sh_76 rfl ?_
        refine gq_iconst (pc := 71) dX12_oneHour_71 kc_0 ?_
        refine gq_dup2 (pc := 72) dX12_oneHour_72 rfl rfl ?_
        refine qm_ald (pc := 73) dX12_oneHour_73 kl_0 (by first | decide | omega) ?_
        refine gq_iconst (pc := 74) dX12_oneHour_74 kc_1 ?_
        refine gq_iadd (pc := 75) dX12_oneHour_75 ?_
        refine qm_ast (pc := 76) dX12_oneHour_76 kl_0 (by first | decide | omega) ?_
        exact gq_vret (pc := 77) rfl dX12_oneHour_77 ⟨rfl, by unfold p_hour p_T p_Bo; rw [e3, p_n_nI (by omega)]⟩
      · have hiV : i < V := Nat.lt_of_not_le fun z => h_19 ((nI_leI (by omega) (by omega)).mpr z)
        have a := p_inv_ones hI hV e3 i (by omega)
        have hlt : nI i < p_ones r i 3 := by rw [p_lo_ones 3 (by omega), e3]; exact (nI_ltI (by omega) (by omega)).mpr hiV
        have b0 := p_inv_eo a hlt (by omega) (s := 0) (by omega)
        have b1 := p_inv_eo a hlt (by omega) (s := 1) (by omega)
        refine gq_aload_n (pc := 22) dX12_oneHour_22 rfl ?_
        refine gq_iload_n (pc := 23) dX12_oneHour_23 rfl ?_
        refine gq_rV1i (pc := 24) dX12_oneHour_24 cv_X12_87 sh_76 (k_heeded a rfl (by omega) b0 b1) ⟨by decide, by decide⟩ rfl rfl (Nat.le_of_ble_eq_true rfl) ?_
        refine gq_istore_n (pc := 27) (l' := [(2, _), (1, _), (0, _)]) dX12_oneHour_27 (by decide) rfl ?_
        refine gq_iload_n (pc := 28) dX12_oneHour_28 rfl ?_
        refine gq_if_ge (pc := 29) 55 dX12_oneHour_29 (by decide) (fun h_29 => ?_) (fun h_29 => ?_)
        · have hneg : ¬ p_heeded (p_ones r i) i < 0 := Int32.not_lt.mpr h_29
          obtain ⟨q0, q1⟩ := p_eo_n (p_heeded_eo b0 b1) hneg
          refine gq_aload_n (pc := 55) dX12_oneHour_55 rfl ?_
          refine gq_iload_n (pc := 56) dX12_oneHour_56 rfl ?_
          refine gq_iload_n (pc := 57) dX12_oneHour_57 rfl ?_
          refine gq_rV2v (pc := 58) dX12_oneHour_58 cv_X12_184 sh_76 (k_looksOn a rfl (by omega) q0 q1 b0 b1) ⟨by decide, by decide⟩ rfl rfl (Nat.le_of_ble_eq_true rfl) ?_
          refine gq_iinc (pc := 61) (l' := [(1, _), (2, _), (0, _)]) dX12_oneHour_61 rfl (ge_inc1 i) (by decide) rfl ?_
          refine gq_goto (pc := 64) 12 dX12_oneHour_64 (by decide) ?_
          refine gq_sub [0, 2] rfl ?_
          refine gq_tog ?_ (ih (V - (i + 1)) (by omega) (i + 1) rfl (by omega))
          show ge_m g (p_one (p_ones r i) i) (p_tb f (p_tk (p_ones r i) i (p_tks r i)) (p_br (p_ones r i) i (p_brs r i))) = _
          unfold p_one p_tk p_br
          first | rw [if_pos hneg, if_pos hneg, if_pos hneg] | rw [if_neg hneg, if_neg hneg, if_neg hneg]
        · have hneg : p_heeded (p_ones r i) i < 0 := Int32.not_le.mp h_29
          refine gq_aload_n (pc := 32) dX12_oneHour_32 rfl ?_
          refine gq_iload_n (pc := 33) dX12_oneHour_33 rfl ?_
          refine gq_iconst (pc := 34) dX12_oneHour_34 kc_2 ?_
          refine gq_aload_n (pc := 35) dX12_oneHour_35 rfl ?_
          refine gq_iload_n (pc := 36) dX12_oneHour_36 rfl ?_
          refine gq_iconst (pc := 37) dX12_oneHour_37 kc_2 ?_
          refine gq_rV2i (pc := 38) dX12_oneHour_38 cv_X12_63 sh_76 (k_ones (by first | assumption | rfl) kl_2 (by omega)) ⟨by decide, by decide⟩ rfl rfl (Nat.le_of_ble_eq_true rfl) ?_
          refine gq_iconst (pc := 41) dX12_oneHour_41 kc_1 ?_
          refine gq_iadd (pc := 42) dX12_oneHour_42 ?_
          refine gq_iconst (pc := 43) dX12_oneHour_43 kc_0 ?_
          refine gq_bipush (pc := 44) dX12_oneHour_44 kb_99 ?_
          refine gq_rS3i (pc := 46) dX12_oneHour_46 cs_X12_161 (k_held _ _ _) ⟨by decide, by decide⟩ (Nat.le_of_ble_eq_true rfl) ?_
          refine gq_rV3v (pc := 49) dX12_oneHour_49 cv_X12_81 sh_76 (k_puts (by first | assumption | rfl) kl_2 (by omega)) ⟨by decide, by decide⟩ rfl rfl (Nat.le_of_ble_eq_true rfl) ?_
          refine gq_goto (pc := 52) 61 dX12_oneHour_52 (by decide) ?_
          refine gq_iinc (pc := 61) (l' := [(1, _), (2, _), (0, _)]) dX12_oneHour_61 rfl (ge_inc1 i) (by decide) rfl ?_
          refine gq_goto (pc := 64) 12 dX12_oneHour_64 (by decide) ?_
          refine gq_sub [0, 2] rfl ?_
          refine gq_tog ?_ (ih (V - (i + 1)) (by omega) (i + 1) rfl (by omega))
          show ge_m g (p_one (p_ones r i) i) (p_tb f (p_tk (p_ones r i) i (p_tks r i)) (p_br (p_ones r i) i (p_brs r i))) = _
          unfold p_one p_tk p_br
          first | rw [if_pos hneg, if_pos hneg, if_pos hneg] | rw [if_neg hneg, if_neg hneg, if_neg hneg]
  refine gq_tog (g := ge_m g r (p_tb f (f 15) (f 16))) (by rw [p_tb_self]) ?_
  refine gq_aload_n (pc := 0) dX12_oneHour_0 rfl ?_
  refine gq_iconst (pc := 1) dX12_oneHour_1 kc_0 ?_
  refine qw_tk (pc := 2) dX12_oneHour_2 fp_X12_181_12 sh_76 rfl ?_
  refine gq_aload_n (pc := 5) dX12_oneHour_5 rfl ?_
  refine gq_iconst (pc := 6) dX12_oneHour_6 kc_0 ?_
  refine qw_bo (pc := 7) dX12_oneHour_7 fp_X12_174_12 sh_76 rfl ?_
  refine gq_iconst (pc := 10) dX12_oneHour_10 kc_0 ?_
  refine gq_istore_n (pc := 11) (l' := [(1, _), (0, _)]) dX12_oneHour_11 (by decide) rfl ?_
  exact key V 0 rfl (Nat.zero_le _)
def p_pop (k : Nat) : Nat := k % 2 + k / 2 % 2 + k / 4 % 2 + k / 8 % 2 + k / 16 % 2 + k / 32 % 2 + k / 64 % 2 + k / 128 % 2 + k / 256 % 2 + k / 512 % 2
theorem p_pop_st : ∀ k, k < 1024 → k ≠ 0 → p_pop k = 1 + p_pop (k &&& (k - 1)) ∧ (k &&& (k - 1)) < k := by decide +kernel
theorem p_and_nI (a b : Nat) : nI a &&& nI b = nI (a &&& b) := by
  unfold nI
  apply Int32.toBitVec_inj.mp
  simp [BitVec.ofNat_and]
set_option maxHeartbeats 1000000 in
theorem k_bits {s : Int32} {k0 : Nat} (hs : s = nI k0) (hk0 : k0 < 1024) : ge_N X ge_SH YX12_bits 0 [.int s] g (some (.int (nI (p_pop k0)))) g := by
  refine gq_ofB (l := [(0, .int s)]) (by decide) (Nat.le_of_ble_eq_true rfl) rfl ?_
  have key : ∀ (k m : Nat), k < 1024 → m + p_pop k = p_pop k0 → ge_B X ge_SH YX12_bits 0 (fun v2 g2 => v2 = some (.int (nI (p_pop k0))) ∧ g2 = g) 4 [(2, .int (nI k)), (1, .int (nI m)), (0, .int s)] [] g := by
    intro k
    induction k using Nat.strongRecOn with
    | ind k ih =>
      intro m hk hm
      refine gq_iload_n (pc := 4) dX12_bits_4 rfl ?_
      refine gq_if_eq (pc := 5) 20 dX12_bits_5 (by decide) (fun h_5 => ?_) (fun h_5 => ?_)
      · obtain rfl : k = 0 := (nI_eq (b := 0) (by omega) (by omega)).mp h_5
        obtain rfl : m = p_pop k0 := hm
        refine gq_iload_n (pc := 20) dX12_bits_20 rfl ?_
        exact gq_iret (pc := 21) rfl dX12_bits_21 ⟨rfl, rfl⟩
      · have hk1 : k ≠ 0 := fun z => h_5 (by rw [z]; rfl)
        obtain ⟨s1, s2⟩ := p_pop_st k hk hk1
        have s3 : nI k - 1 = nI (k - 1) := pk_sub (b := 1) (by omega)
        refine gq_iinc (pc := 8) (l' := [(1, _), (2, _), (0, _)]) dX12_bits_8 rfl (ge_inc1 m) (by decide) rfl ?_
        refine gq_iload_n (pc := 11) dX12_bits_11 rfl ?_
        refine gq_iload_n (pc := 12) dX12_bits_12 rfl ?_
        refine gq_iconst (pc := 13) dX12_bits_13 kc_1 ?_
        refine gq_isub (pc := 14) dX12_bits_14 ?_
        refine gq_iand (pc := 15) dX12_bits_15 ?_
        rw [s3, p_and_nI]
        refine gq_istore_n (pc := 16) (l' := [(2, _), (1, _), (0, _)]) dX12_bits_16 (by decide) rfl ?_
        refine gq_goto (pc := 17) 4 dX12_bits_17 (by decide) ?_
        exact ih (k &&& (k - 1)) s2 (m + 1) (by omega) (by omega)
  refine gq_iconst (pc := 0) dX12_bits_0 kc_0 ?_
  refine gq_istore_n (pc := 1) (l' := [(1, _), (0, _)]) dX12_bits_1 (by decide) rfl ?_
  refine gq_iload_n (pc := 2) dX12_bits_2 rfl ?_
  rw [hs]
  refine gq_istore_n (pc := 3) (l' := [(2, _), (1, _), (0, _)]) dX12_bits_3 (by decide) rfl ?_
  rw [← hs]
  exact hs ▸ key k0 0 hk0 (Nat.zero_add _)
def p_wb (r : Nat → Int32) (e : Int32) : Nat → Int32
  | 0 => -1
  | w + 1 => if p_o r w 0 = e then 10 * nI w else if p_o r w 1 = e then 10 * nI w + 1 else p_wb r e w
theorem p_wb_s (r : Nat → Int32) (e : Int32) (w : Nat) : p_wb r e (w + 1) = if p_o r w 0 = e then 10 * nI w else if p_o r w 1 = e then 10 * nI w + 1 else p_wb r e w := rfl
set_option maxHeartbeats 1000000 in
theorem k_wornBy {e : Int32} {V : Nat} (hV : V ≤ 6) (e3 : r 3 = nI V) : ge_N X ge_SH YX12_wornBy 1 [.ref (ge_ad X.1 76), .int e] (ge_m g r f) (some (.int (p_wb r e V))) (ge_m g r f) := by
  refine gq_ofB (l := [(0, .ref (ge_ad X.1 76)), (1, .int e)]) (by decide) (Nat.le_of_ble_eq_true rfl) rfl ?_
  have key : ∀ (n i : Nat), n = V - i → i ≤ V → ge_B X ge_SH YX12_wornBy 1 (fun v2 g2 => v2 = some (.int (p_wb r e V)) ∧ g2 = ge_m g r f) 4 [(3, .int (nI i)), (2, .int (p_wb r e i)), (0, .ref (ge_ad X.1 76)), (1, .int e)] [] (ge_m g r f) := by
    intro n
    induction n using Nat.strongRecOn with
    | ind n ih =>
      intro i hn hi
      refine gq_iload_n (pc := 4) dX12_wornBy_4 rfl ?_
      refine gq_aload_n (pc := 5) dX12_wornBy_5 rfl ?_
      refine gq_getr (pc := 6) dX12_wornBy_6 fl_X12_7_12 sh_76 rfl ?_
      refine gq_iconst (pc := 9) dX12_wornBy_9 kc_3 ?_
      refine qm_ald (pc := 10) dX12_wornBy_10 kl_3 (by first | decide | omega) ?_
      rw [e3]
      refine gq_ic_ge (pc := 11) 58 dX12_wornBy_11 (by decide) (fun h_11 => ?_) (fun h_11 => ?_)
      · have hiV : i = V := by have := (nI_leI (by omega) (by omega)).mp h_11; omega
        subst hiV
        refine gq_iload_n (pc := 58) dX12_wornBy_58 rfl ?_
        exact gq_iret (pc := 59) rfl dX12_wornBy_59 ⟨rfl, rfl⟩
      · have hiV : i < V := Nat.lt_of_not_le fun z => h_11 ((nI_leI (by omega) (by omega)).mpr z)
        refine gq_aload_n (pc := 14) dX12_wornBy_14 rfl ?_
        refine gq_iload_n (pc := 15) dX12_wornBy_15 rfl ?_
        refine gq_iconst (pc := 16) dX12_wornBy_16 kc_0 ?_
        refine gq_rV2i (pc := 17) dX12_wornBy_17 cv_X12_63 sh_76 (k_ones (by first | assumption | rfl) kl_0 (by omega)) ⟨by decide, by decide⟩ rfl rfl (Nat.le_of_ble_eq_true rfl) ?_
        refine gq_iload_n (pc := 20) dX12_wornBy_20 rfl ?_
        refine gq_cutc (J := 51) (p_wb r e (i + 1)) ?_ (fun J_51 => ?_)
        · refine gq_istore_n (pc := 51) (l' := [(2, _), (3, _), (0, _), (1, _)]) dX12_wornBy_51 (by decide) rfl ?_
          refine gq_iinc (pc := 52) (l' := [(3, _), (2, _), (0, _), (1, _)]) dX12_wornBy_52 rfl (ge_inc1 i) (by decide) rfl ?_
          refine gq_goto (pc := 55) 4 dX12_wornBy_55 (by decide) ?_
          exact ih (V - (i + 1)) (by omega) (i + 1) rfl (by omega)
        · refine gq_ic_ne (pc := 21) 31 dX12_wornBy_21 (by decide) (fun h_21 => ?_) (fun h_21 => ?_)
          · refine gq_aload_n (pc := 31) dX12_wornBy_31 rfl ?_
            refine gq_iload_n (pc := 32) dX12_wornBy_32 rfl ?_
            refine gq_iconst (pc := 33) dX12_wornBy_33 kc_1 ?_
            refine gq_rV2i (pc := 34) dX12_wornBy_34 cv_X12_63 sh_76 (k_ones (by first | assumption | rfl) kl_1 (by omega)) ⟨by decide, by decide⟩ rfl rfl (Nat.le_of_ble_eq_true rfl) ?_
            refine gq_iload_n (pc := 37) dX12_wornBy_37 rfl ?_
            refine gq_ic_ne (pc := 38) 50 dX12_wornBy_38 (by decide) (fun h_38 => ?_) (fun h_38 => ?_)
            · refine gq_iload_n (pc := 50) dX12_wornBy_50 rfl ?_
              (refine gq_tov ?_ J_51; rw [p_wb_s]; first | (rw [if_neg h_21, if_neg h_38]; done) | (rw [if_neg h_21, if_pos h_38]; done) | (rw [if_pos h_21]; done))
            · refine gq_bipush (pc := 41) dX12_wornBy_41 kb_10 ?_
              refine gq_iload_n (pc := 43) dX12_wornBy_43 rfl ?_
              refine gq_imul (pc := 44) dX12_wornBy_44 ?_
              refine gq_iconst (pc := 45) dX12_wornBy_45 kc_1 ?_
              refine gq_iadd (pc := 46) dX12_wornBy_46 ?_
              refine gq_goto (pc := 47) 51 dX12_wornBy_47 (by decide) ?_
              (refine gq_tov ?_ J_51; rw [p_wb_s]; first | (rw [if_neg h_21, if_neg h_38]; done) | (rw [if_neg h_21, if_pos h_38]; done) | (rw [if_pos h_21]; done))
          · refine gq_bipush (pc := 24) dX12_wornBy_24 kb_10 ?_
            refine gq_iload_n (pc := 26) dX12_wornBy_26 rfl ?_
            refine gq_imul (pc := 27) dX12_wornBy_27 ?_
            refine gq_goto (pc := 28) 51 dX12_wornBy_28 (by decide) ?_
            (refine gq_tov ?_ J_51; rw [p_wb_s]; first | (rw [if_neg h_21, if_neg h_38]; done) | (rw [if_neg h_21, if_pos h_38]; done) | (rw [if_pos h_21]; done))
  refine gq_iconst (pc := 0) dX12_wornBy_0 kc_m1 ?_
  refine gq_istore_n (pc := 1) (l' := [(2, _), (0, _), (1, _)]) dX12_wornBy_1 (by decide) rfl ?_
  refine gq_iconst (pc := 2) dX12_wornBy_2 kc_0 ?_
  refine gq_istore_n (pc := 3) (l' := [(3, _), (2, _), (0, _), (1, _)]) dX12_wornBy_3 (by decide) rfl ?_
  exact key V 0 rfl (Nat.zero_le _)
def p_cm0 (r : Nat → Int32) (e : Int32) (o : Nat) : Nat → Int32 := p_uo r o 0 (if p_o r o 0 = e then -1 else p_o r o 0)
def p_cm1 (r : Nat → Int32) (e : Int32) (o : Nat) : Nat → Int32 := p_uo (p_cm0 r e o) o 1 (if p_o (p_cm0 r e o) o 1 = e then -1 else p_o (p_cm0 r e o) o 1)
def p_cms (r : Nat → Int32) (e : Int32) : Nat → Nat → Int32
  | 0 => r
  | o + 1 => p_cm1 (p_cms r e o) e o
def p_come (r : Nat → Int32) (w s : Nat) (e : Int32) : Nat → Int32 := p_uo (if e < 0 then r else p_cms r e (p_n (r 3))) w s e
theorem p_lo_cms (r : Nat → Int32) (e : Int32) (i : Nat) (hi : i < 50) : ∀ w, p_cms r e w i = r i := by
  intro w
  induction w with
  | zero => rfl
  | succ w ih => show p_cm1 (p_cms r e w) e w i = r i; unfold p_cm1 p_cm0; rw [p_lo_uo _ _ _ _ i hi, p_lo_uo _ _ _ _ i hi, ih]
set_option maxHeartbeats 1000000 in
theorem k_comes {w s e : Int32} {V i0 k0 : Nat} (hV : V ≤ 6) (e3 : r 3 = nI V) (hw : w = nI i0) (hs : s = nI k0) (hi0 : i0 < 6) (hk0 : k0 < 4) : ge_N X ge_SH YX12_comes 1 [.ref (ge_ad X.1 76), .int w, .int s, .int e] (ge_m g r f) none (ge_m g (p_come r i0 k0 e) f) := by
  refine gq_ofB (l := [(0, .ref (ge_ad X.1 76)), (1, .int w), (2, .int s), (3, .int e)]) (by decide) (Nat.le_of_ble_eq_true rfl) rfl ?_
  have key : ∀ (n i : Nat), n = V - i → i ≤ V → (e < 0 → i = 0) → ge_B X ge_SH YX12_comes 1 (fun v2 g2 => v2 = none ∧ g2 = ge_m g (p_come r i0 k0 e) f) 3 [(4, .int (nI i)), (0, .ref (ge_ad X.1 76)), (1, .int w), (2, .int s), (3, .int e)] [] (ge_m g (p_cms r e i) f) := by
    intro n
    induction n using Nat.strongRecOn with
    | ind n ih =>
      intro i hn hi h0
      refine gq_iload (pc := 3) dX12_comes_3 rfl ?_
      refine gq_aload_n (pc := 5) dX12_comes_5 rfl ?_
      refine gq_getr (pc := 6) dX12_comes_6 fl_X12_7_12 sh_76 rfl ?_
      refine gq_iconst (pc := 9) dX12_comes_9 kc_3 ?_
      refine qm_ald (pc := 10) dX12_comes_10 kl_3 (by first | decide | omega) ?_
      rw [p_lo_cms r e 3 (by omega), e3]
      refine gq_ic_ge (pc := 11) 82 dX12_comes_11 (by decide) (fun h_11 => ?_) (fun h_11 => ?_)
      · have hiV : i = V := by have := (nI_leI (by omega) (by omega)).mp h_11; omega
        subst hiV
        have hfin : p_cms r e i = (if e < 0 then r else p_cms r e (p_n (r 3))) := by rw [e3, p_n_nI (by omega)]; by_cases hz : e < 0; rw [if_pos hz, h0 hz]; rfl; rw [if_neg hz]
        refine gq_aload_n (pc := 82) dX12_comes_82 rfl ?_
        refine gq_iload_n (pc := 83) dX12_comes_83 rfl ?_
        refine gq_iload_n (pc := 84) dX12_comes_84 rfl ?_
        refine gq_iload_n (pc := 85) dX12_comes_85 rfl ?_
        refine gq_rV3v (pc := 86) dX12_comes_86 cv_X12_81 sh_76 (k_puts (by first | assumption | rfl) (by first | assumption | rfl) (by omega)) ⟨by decide, by decide⟩ rfl rfl (Nat.le_of_ble_eq_true rfl) ?_
        exact gq_vret (pc := 89) rfl dX12_comes_89 ⟨rfl, by unfold p_come; rw [← hfin]⟩
      · have hiV : i < V := Nat.lt_of_not_le fun z => h_11 ((nI_leI (by omega) (by omega)).mpr z)
        refine gq_iload_n (pc := 14) dX12_comes_14 rfl ?_
        refine gq_if_lt (pc := 15) 82 dX12_comes_15 (by decide) (fun h_15 => ?_) (fun h_15 => ?_)
        · have hfin : p_cms r e i = (if e < 0 then r else p_cms r e (p_n (r 3))) := by rw [if_pos h_15, h0 h_15]; rfl
          refine gq_aload_n (pc := 82) dX12_comes_82 rfl ?_
          refine gq_iload_n (pc := 83) dX12_comes_83 rfl ?_
          refine gq_iload_n (pc := 84) dX12_comes_84 rfl ?_
          refine gq_iload_n (pc := 85) dX12_comes_85 rfl ?_
          refine gq_rV3v (pc := 86) dX12_comes_86 cv_X12_81 sh_76 (k_puts (by first | assumption | rfl) (by first | assumption | rfl) (by omega)) ⟨by decide, by decide⟩ rfl rfl (Nat.le_of_ble_eq_true rfl) ?_
          exact gq_vret (pc := 89) rfl dX12_comes_89 ⟨rfl, by unfold p_come; rw [← hfin]⟩
        · refine gq_aload_n (pc := 18) dX12_comes_18 rfl ?_
          refine gq_iload (pc := 19) dX12_comes_19 rfl ?_
          refine gq_iconst (pc := 21) dX12_comes_21 kc_0 ?_
          refine gq_aload_n (pc := 22) dX12_comes_22 rfl ?_
          refine gq_iload (pc := 23) dX12_comes_23 rfl ?_
          refine gq_iconst (pc := 25) dX12_comes_25 kc_0 ?_
          refine gq_rV2i (pc := 26) dX12_comes_26 cv_X12_63 sh_76 (k_ones (by first | assumption | rfl) kl_0 (by omega)) ⟨by decide, by decide⟩ rfl rfl (Nat.le_of_ble_eq_true rfl) ?_
          refine gq_iload_n (pc := 29) dX12_comes_29 rfl ?_
          refine gq_cutc (J := 44) ((if p_o (p_cms r e i) i 0 = e then -1 else p_o (p_cms r e i) i 0)) ?_ (fun J_44 => ?_)
          · refine gq_rV3v (pc := 44) dX12_comes_44 cv_X12_81 sh_76 (k_puts (by first | assumption | rfl) kl_0 (by omega)) ⟨by decide, by decide⟩ rfl rfl (Nat.le_of_ble_eq_true rfl) ?_
            refine gq_tog (g := ge_m g (p_cm0 (p_cms r e i) e i) f) rfl ?_
            refine gq_aload_n (pc := 47) dX12_comes_47 rfl ?_
            refine gq_iload (pc := 48) dX12_comes_48 rfl ?_
            refine gq_iconst (pc := 50) dX12_comes_50 kc_1 ?_
            refine gq_aload_n (pc := 51) dX12_comes_51 rfl ?_
            refine gq_iload (pc := 52) dX12_comes_52 rfl ?_
            refine gq_iconst (pc := 54) dX12_comes_54 kc_1 ?_
            refine gq_rV2i (pc := 55) dX12_comes_55 cv_X12_63 sh_76 (k_ones (by first | assumption | rfl) kl_1 (by omega)) ⟨by decide, by decide⟩ rfl rfl (Nat.le_of_ble_eq_true rfl) ?_
            refine gq_iload_n (pc := 58) dX12_comes_58 rfl ?_
            refine gq_cutc (J := 73) ((if p_o (p_cm0 (p_cms r e i) e i) i 1 = e then -1 else p_o (p_cm0 (p_cms r e i) e i) i 1)) ?_ (fun J_73 => ?_)
            · refine gq_rV3v (pc := 73) dX12_comes_73 cv_X12_81 sh_76 (k_puts (by first | assumption | rfl) kl_1 (by omega)) ⟨by decide, by decide⟩ rfl rfl (Nat.le_of_ble_eq_true rfl) ?_
              refine gq_tog (g := ge_m g (p_cms r e (i + 1)) f) rfl ?_
              refine gq_iinc (pc := 76) (l' := [(4, _), (0, _), (1, _), (2, _), (3, _)]) dX12_comes_76 rfl (ge_inc1 i) (by decide) rfl ?_
              refine gq_goto (pc := 79) 3 dX12_comes_79 (by decide) ?_
              exact ih (V - (i + 1)) (by omega) (i + 1) rfl (by omega) (fun z => absurd z h_15)
            · refine gq_ic_ne (pc := 59) 66 dX12_comes_59 (by decide) (fun h_59 => ?_) (fun h_59 => ?_)
              · refine gq_aload_n (pc := 66) dX12_comes_66 rfl ?_
                refine gq_iload (pc := 67) dX12_comes_67 rfl ?_
                refine gq_iconst (pc := 69) dX12_comes_69 kc_1 ?_
                refine gq_rV2i (pc := 70) dX12_comes_70 cv_X12_63 sh_76 (k_ones (by first | assumption | rfl) kl_1 (by omega)) ⟨by decide, by decide⟩ rfl rfl (Nat.le_of_ble_eq_true rfl) ?_
                (refine gq_tov ?_ J_73; first | rw [if_neg h_59] | rw [if_pos h_59])
              · refine gq_iconst (pc := 62) dX12_comes_62 kc_m1 ?_
                refine gq_goto (pc := 63) 73 dX12_comes_63 (by decide) ?_
                (refine gq_tov ?_ J_73; first | rw [if_neg h_59] | rw [if_pos h_59])
          · refine gq_ic_ne (pc := 30) 37 dX12_comes_30 (by decide) (fun h_30 => ?_) (fun h_30 => ?_)
            · refine gq_aload_n (pc := 37) dX12_comes_37 rfl ?_
              refine gq_iload (pc := 38) dX12_comes_38 rfl ?_
              refine gq_iconst (pc := 40) dX12_comes_40 kc_0 ?_
              refine gq_rV2i (pc := 41) dX12_comes_41 cv_X12_63 sh_76 (k_ones (by first | assumption | rfl) kl_0 (by omega)) ⟨by decide, by decide⟩ rfl rfl (Nat.le_of_ble_eq_true rfl) ?_
              (refine gq_tov ?_ J_44; first | rw [if_neg h_30] | rw [if_pos h_30])
            · refine gq_iconst (pc := 33) dX12_comes_33 kc_m1 ?_
              refine gq_goto (pc := 34) 44 dX12_comes_34 (by decide) ?_
              (refine gq_tov ?_ J_44; first | rw [if_neg h_30] | rw [if_pos h_30])
  refine gq_iconst (pc := 0) dX12_comes_0 kc_0 ?_
  refine gq_istore (pc := 1) (l' := [(4, _), (0, _), (1, _), (2, _), (3, _)]) dX12_comes_1 (by decide) rfl ?_
  exact key V 0 rfl (Nat.zero_le _) (fun _ => rfl)
set_option maxHeartbeats 400000 in
theorem k_drawn  : ge_N X ge_SH YX12_drawn 0 [.ref (ge_ad X.1 76)] (ge_m g r f) (some (.int (ge_us (r 1 * 1103515245 + 12345) 8))) (ge_m g (upd r 1 (r 1 * 1103515245 + 12345)) f) := by
  refine gq_ofB (l := [(0, .ref (ge_ad X.1 76))]) (by decide) (Nat.le_of_ble_eq_true rfl) rfl ?_
  refine gq_aload_n (pc := 0) dX12_drawn_0 rfl ?_
  refine gq_getr (pc := 1) dX12_drawn_1 fl_X12_7_12 sh_76 rfl ?_
  refine gq_iconst (pc := 4) dX12_drawn_4 kc_1 ?_
  refine gq_aload_n (pc := 5) dX12_drawn_5 rfl ?_
  refine gq_getr (pc := 6) dX12_drawn_6 fl_X12_7_12 sh_76 rfl ?_
  refine gq_iconst (pc := 9) dX12_drawn_9 kc_1 ?_
  refine qm_ald (pc := 10) dX12_drawn_10 kl_1 (by first | decide | omega) ?_
  refine gq_ldc (pc := 11) dX12_drawn_11 kn_X12_198 ?_
  refine gq_imul (pc := 13) dX12_drawn_13 ?_
  refine gq_sipush (pc := 14) dX12_drawn_14 kq_12345 ?_
  refine gq_iadd (pc := 17) dX12_drawn_17 ?_
  refine qm_ast (pc := 18) dX12_drawn_18 kl_1 (by first | decide | omega) ?_
  refine gq_aload_n (pc := 19) dX12_drawn_19 rfl ?_
  refine gq_getr (pc := 20) dX12_drawn_20 fl_X12_7_12 sh_76 rfl ?_
  refine gq_iconst (pc := 23) dX12_drawn_23 kc_1 ?_
  refine qm_ald (pc := 24) dX12_drawn_24 kl_1 (by first | decide | omega) ?_
  refine gq_bipush (pc := 25) dX12_drawn_25 kb_8 ?_
  refine gq_iushr (pc := 27) dX12_drawn_27 ?_
  exact gq_iret (pc := 28) rfl dX12_drawn_28 ⟨by simp [upd], rfl⟩
def p_above (k : Int32) : Int32 := if k = 0 then -1 else if k ≤ 3 then 0 else k - 3
set_option maxHeartbeats 400000 in
theorem k_above (k : Int32) : ge_N X ge_SH YX12_above 0 [.int k] g (some (.int (p_above k))) g := by
  refine gq_ofB (l := [(0, .int k)]) (by decide) (Nat.le_of_ble_eq_true rfl) rfl ?_
  refine gq_iload_n (pc := 0) dX12_above_0 rfl ?_
  refine gq_if_ne (pc := 1) 8 dX12_above_1 (by decide) (fun h_1 => ?_) (fun h_1 => ?_)
  · refine gq_iload_n (pc := 8) dX12_above_8 rfl ?_
    refine gq_iconst (pc := 9) dX12_above_9 kc_3 ?_
    refine gq_ic_le (pc := 10) 19 dX12_above_10 (by decide) (fun h_10 => ?_) (fun h_10 => ?_)
    · refine gq_iconst (pc := 19) dX12_above_19 kc_0 ?_
      exact gq_iret (pc := 20) rfl dX12_above_20 ⟨by simp only [p_above, *, if_true, if_false], rfl⟩
    · refine gq_iload_n (pc := 13) dX12_above_13 rfl ?_
      refine gq_iconst (pc := 14) dX12_above_14 kc_3 ?_
      refine gq_isub (pc := 15) dX12_above_15 ?_
      refine gq_goto (pc := 16) 20 dX12_above_16 (by decide) ?_
      exact gq_iret (pc := 20) rfl dX12_above_20 ⟨by simp only [p_above, *, if_true, if_false], rfl⟩
  · refine gq_iconst (pc := 4) dX12_above_4 kc_m1 ?_
    refine gq_goto (pc := 5) 20 dX12_above_5 (by decide) ?_
    exact gq_iret (pc := 20) rfl dX12_above_20 ⟨by simp only [p_above, *, if_true, if_false], rfl⟩
end H2
