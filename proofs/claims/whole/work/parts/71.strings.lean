section Z1
variable {X : ge_X} {S : List ge_S} {y : ge_Y} {d : Nat} {Q : Option Value → ge_G → Prop} {l : List (Nat × Value)} {st rest : List Value} {g : ge_G} {pc : Nat}
theorem ge_tret {x : Int32} {ty : FieldType} (hr : y.2.2.2 = some ty) (hx : narrow ty (.int x) = .int x) (dg : decode y.2.1 pc = .ok (.ireturn, 1)) (hq : Q (some (.int x)) g) : ge_A X S y d Q pc l [.int x] g := by
  intro p lc e s m args below meth c H locs ls C hH hS hls
  exact W.zret C.1 C.2.1 (C.2.2.2.2.2.1.trans hr) hx (fun t ht hW => ⟨_, g, rfl, hq, by rw [ht]; exact hH, hS.F ht⟩) hS.2.2 dg C.2.2.2.2.2.2.1
theorem gq_tret {x : Int32} {ty : FieldType} (hr : y.2.2.2 = some ty) (hx : narrow ty (.int x) = .int x) (dg : decode y.2.1 pc = .ok (.ireturn, 1)) (hq : Q (some (.int x)) g) : ge_B X S y d Q pc l [.int x] g := fun g1 hg => ge_tret hr hx dg ⟨g, hg, hq⟩
theorem gs_ldc0 (hy : y.1.cls = RX9) (dg : decode y.2.1 pc = .ok (.ldc 79, 2)) (kk : ge_B X S y d Q (pc + 2) l (.ref (ge_ad X.1 1000) :: st) g) : ge_B X S y d Q pc l st g := by
  intro g1 hg pr lc e s m args below meth c H locs ls C hH hS hls
  exact va_ldcS C.1 C.2.1 (own := RX9) (tx := "bhm") (by rw [← hy]; exact C.2.2.2.1) C.2.2.2.2.2.2.2.2.1 dg (kk g1 hg pr lc e s m args below meth c H locs ls C hH hS hls)
theorem gs_ldc1 (hy : y.1.cls = RX9) (dg : decode y.2.1 pc = .ok (.ldc 81, 2)) (kk : ge_B X S y d Q (pc + 2) l (.ref (ge_ad X.1 1001) :: st) g) : ge_B X S y d Q pc l st g := by
  intro g1 hg pr lc e s m args below meth c H locs ls C hH hS hls
  exact va_ldcS C.1 C.2.1 (own := RX9) (tx := "lrh") (by rw [← hy]; exact C.2.2.2.1) C.2.2.2.2.2.2.2.2.2.1 dg (kk g1 hg pr lc e s m args below meth c H locs ls C hH hS hls)
theorem gs_cs {idx : Nat} (dg : decode y.2.1 pc = .ok (.getstatic idx, 3)) (hl : Cond.fieldLink y.1.cls idx "java/lang/String" "COMPACT_STRINGS" "Z" ∈ ge_tbl) (kk : ge_B X S y d Q (pc + 3) l (.int 1 :: st) g) : ge_B X S y d Q pc l st g := by
  intro g1 hg pr lc e s m args below meth c H locs ls C hH hS hls
  exact va_gets C.1 C.2.1 C.2.2.2.2.2.2.2.2.2.2.2.1 hS C.2.2.2.1 (C.2.2.2.2.1 _ hl) (fun x h => h) dg (kk g1 hg pr lc e s m args below meth c H locs ls C hH hS hls)
theorem gs_fm {idx : Nat} (dg : decode y.2.1 pc = .ok (.getstatic idx, 3)) (hl : Cond.fieldLink y.1.cls idx "jdk/internal/util/Preconditions" "SIOOBE_FORMATTER" "Ljava/util/function/BiFunction;" ∈ ge_tbl) (kk : ge_B X S y d Q (pc + 3) l (ge_fv X :: st) g) : ge_B X S y d Q pc l st g := by
  intro g1 hg pr lc e s m args below meth c H locs ls C hH hS hls
  exact va_gets C.1 C.2.1 C.2.2.2.2.2.2.2.2.2.2.2.2 hS C.2.2.2.1 (C.2.2.2.2.1 _ hl) (fun x h => h) dg (kk g1 hg pr lc e s m args below meth c H locs ls C hH hS hls)
theorem gs_val {idx i : Nat} (hi : i < 2) (dg : decode y.2.1 pc = .ok (.getfield idx, 3)) (hl : Cond.fieldLink y.1.cls idx "java/lang/String" "value" "[B" ∈ ge_tbl) (kk : ge_B X S y d Q (pc + 3) l (.ref (ge_ad X.1 (1010 + i)) :: st) g) : ge_B X S y d Q pc l (.ref (ge_ad X.1 (1000 + i)) :: st) g := by
  intro g1 hg pr lc e s m args below meth c H locs ls C hH hS hls
  exact vk_getf C.1 C.2.1 (C.2.2.2.2.2.2.2.2.2.2.1.1 i hi).2.2.1 hS C.2.2.2.1 (C.2.2.2.2.1 _ hl) (fun x h => h) dg (kk g1 hg pr lc e s m args below meth c H locs ls C hH hS hls)
theorem gs_cod {idx i : Nat} (hi : i < 2) (dg : decode y.2.1 pc = .ok (.getfield idx, 3)) (hl : Cond.fieldLink y.1.cls idx "java/lang/String" "coder" "B" ∈ ge_tbl) (kk : ge_B X S y d Q (pc + 3) l (.int 0 :: st) g) : ge_B X S y d Q pc l (.ref (ge_ad X.1 (1000 + i)) :: st) g := by
  intro g1 hg pr lc e s m args below meth c H locs ls C hH hS hls
  exact vk_getf C.1 C.2.1 (C.2.2.2.2.2.2.2.2.2.2.1.1 i hi).2.1 hS C.2.2.2.1 (C.2.2.2.2.1 _ hl) (fun x h => h) dg (kk g1 hg pr lc e s m args below meth c H locs ls C hH hS hls)
theorem p_len3 : ∀ i, i < 2 → ([3, 3] : List Nat).getD i 0 = 3 := by decide
theorem gs_alen {i : Nat} (hi : i < 2) (dg : decode y.2.1 pc = .ok (.arraylength, 1)) (kk : ge_B X S y d Q (pc + 1) l (.int 3 :: st) g) : ge_B X S y d Q pc l (.ref (ge_ad X.1 (1010 + i)) :: st) g := by
  intro g1 hg pr lc e s m args below meth c H locs ls C hH hS hls
  exact va_tlen C.1 C.2.1 (C.2.2.2.2.2.2.2.2.2.2.1.1 i hi).2.2.2 hS (v := 3) (by rw [p_len3 i hi]; rfl) dg (kk g1 hg pr lc e s m args below meth c H locs ls C hH hS hls)
def p_ch (i k : Nat) : Int32 := (([[98, 104, 109], [108, 114, 104]] : List (List Int32)).getD i []).getD k 0
theorem gs_bald {i k : Nat} (hi : i < 2) (hk : k < 3) (dg : decode y.2.1 pc = .ok (.baload, 1)) (kk : ge_B X S y d Q (pc + 1) l (.int (p_ch i k) :: st) g) : ge_B X S y d Q pc l (.int (nI k) :: .ref (ge_ad X.1 (1010 + i)) :: st) g := by
  intro g1 hg pr lc e s m args below meth c H locs ls C hH hS hls
  exact va_tb C.1 C.2.1 (C.2.2.2.2.2.2.2.2.2.2.1.1 i hi).2.2.2 hS (i := nI k) (by rw [p_len3 i hi]; exact vp_in_nI hk (by decide)) (v := .int (p_ch i k)) (by rw [nI_clamp (by omega)]; rfl) dg (kk g1 hg pr lc e s m args below meth c H locs ls C hH hS hls)
theorem gs_i2c {x v : Int32} (hv : (x.toUInt32 % 65536).toInt32 = v) (dg : decode y.2.1 pc = .ok (.i2c, 1)) (kk : ge_B X S y d Q (pc + 1) l (.int v :: st) g) : ge_B X S y d Q pc l (.int x :: st) g := by
  intro g1 hg pr lc e s m args below meth c H locs ls C hH hS hls
  exact lv_i2c C.1 C.2.1 dg hv (kk g1 hg pr lc e s m args below meth c H locs ls C hH hS hls)
theorem gs_callV {idx n i d' : Nat} {y' : ge_Y} {As : List Value} {Q' : Option Value → ge_G → Prop} (hi : i < 2) (dg : decode y.2.1 pc = .ok (.invokevirtual idx, 3)) (hc : ge_cv y.1.cls idx n y') (hd : ge_ok y' d' d) (hy : y'.1.cls = "java/lang/String")
    (hn : As.length = n) (hst : st = As.reverse ++ .ref (ge_ad X.1 (1000 + i)) :: rest) (hr : (rest.map fun v => v.category).sum ≤ 8)
    (hM : ge_NQ X S y' d' (.ref (ge_ad X.1 (1000 + i)) :: As) g Q') (kk : ∀ (v : Option Value) (g' : ge_G), Q' v g' → ge_B X S y d Q (pc + 3) l (v.toList ++ rest) g') : ge_B X S y d Q pc l st g := by
  intro g1 hg pr lc e s m args below meth c H locs ls C hH hS hls
  obtain ⟨hc1, hc2, hc3⟩ := hc
  refine ge_after (va_runV (As := As) (rest := rest) (b := ge_ad X.1 (1000 + i)) (nL := y.2.2.1) (Ts := ge_tbl) (own := y.1.cls) ⟨C.1, C.2.1, C.2.2.1, C.2.2.2.1, C.2.2.2.2.1⟩ (hM g1 hg lc) (cwV (own := y.1.cls) (C := y'.1.cls) (index := idx) n C.2.2.2.2.1 (ge_gin (y := y) (y' := y') hc2 hc1) rfl rfl rfl ⟨rfl, hc3⟩ hd.room)
    ⟨ge_blind X S g1 _, ?_, fun U hU hW => ⟨rfl, by rw [hU]; exact hH, ge_K_moved hW hU hS C.2.2.2.2.2.2.2⟩⟩ rfl hn hls.1 hst (lv_room hr) dg ⟨Nat.zero_le _, Nat.zero_le _⟩) hS ?_
  · rw [hy]
    exact vk_recv (i := i) (adK := fun i => ge_ad X.1 (1000 + i)) C.2.2.2.2.2.2.2.2.2.2.1 hi hS
  · intro v g' hv H1 locs1 hH1 hS1
    obtain ⟨g3, h1, h2⟩ := hv
    exact kk v g3 h2 g' h1 pr lc e s m args below meth c H1 locs1 ls C hH1 hS1 hls
theorem gs_rV0i {idx i d' : Nat} {y' : ge_Y} {x : Int32} {g' : ge_G} (hi : i < 2) (dg : decode y.2.1 pc = .ok (.invokevirtual idx, 3)) (hc : ge_cv y.1.cls idx 0 y') (hy : y'.1.cls = "java/lang/String") (hM : ge_N X S y' d' [.ref (ge_ad X.1 (1000 + i))] g (some (.int x)) g') (hd : ge_ok y' d' d) (hr : (rest.map fun v => v.category).sum ≤ 8)
    (kk : ge_B X S y d Q (pc + 3) l (.int x :: rest) g') : ge_B X S y d Q pc l (.ref (ge_ad X.1 (1000 + i)) :: rest) g := gs_callV (As := []) hi dg hc hd hy rfl rfl hr hM (by rintro v g2 ⟨rfl, rfl⟩; exact kk)
theorem gs_rV1i {idx i d' : Nat} {y' : ge_Y} {a1 : Value} {x : Int32} {g' : ge_G} (hi : i < 2) (dg : decode y.2.1 pc = .ok (.invokevirtual idx, 3)) (hc : ge_cv y.1.cls idx 1 y') (hy : y'.1.cls = "java/lang/String") (hM : ge_N X S y' d' [.ref (ge_ad X.1 (1000 + i)), a1] g (some (.int x)) g') (hd : ge_ok y' d' d) (hr : (rest.map fun v => v.category).sum ≤ 8)
    (kk : ge_B X S y d Q (pc + 3) l (.int x :: rest) g') : ge_B X S y d Q pc l (a1 :: .ref (ge_ad X.1 (1000 + i)) :: rest) g := gs_callV (As := [a1]) hi dg hc hd hy rfl rfl hr hM (by rintro v g2 ⟨rfl, rfl⟩; exact kk)
end Z1
theorem cv_J0_335 : ge_cv RJ0 335 0 YJ0_coder_7d493 := ⟨ge_uw [624, 625, 626, 81] (by decide +kernel) (by decide +kernel), (ge_tl 627 (by decide +kernel) rfl), by decide +kernel⟩
theorem cv_J0_492 : ge_cv RJ0 492 0 YJ0_isLatin1_aae02 := ⟨ge_uw [634, 635, 636, 81] (by decide +kernel) (by decide +kernel), (ge_tl 637 (by decide +kernel) rfl), by decide +kernel⟩
theorem cs_J0_495 : ge_cs RJ0 495 2 YJ1_charAt_3b067 := ⟨ge_uw [638, 639, 82] (by decide +kernel) (by decide +kernel), (ge_tl 640 (by decide +kernel) rfl), by decide +kernel⟩
theorem cs_J1_9 : ge_cs RJ1 9 2 YJ0_checkIndex_df160 := ⟨ge_uw [641, 642, 81] (by decide +kernel) (by decide +kernel), (ge_tl 643 (by decide +kernel) rfl), by decide +kernel⟩
theorem cs_J0_1059 : ge_cs RJ0 1059 3 YJ3_checkIndex_8e157 := ⟨ge_uw [646, 647, 83] (by decide +kernel) (by decide +kernel), (ge_tl 648 (by decide +kernel) rfl), by decide +kernel⟩
theorem fs_val : Cond.fieldLink RJ0 9 "java/lang/String" "value" "[B" ∈ ge_tbl := (ge_tl 1456 (by decide +kernel) rfl)
theorem fs_cod : Cond.fieldLink RJ0 15 "java/lang/String" "coder" "B" ∈ ge_tbl := (ge_tl 1457 (by decide +kernel) rfl)
theorem fs_cs : Cond.fieldLink RJ0 38 "java/lang/String" "COMPACT_STRINGS" "Z" ∈ ge_tbl := (ge_tl 628 (by decide +kernel) rfl)
theorem fs_fm : Cond.fieldLink RJ0 1053 "jdk/internal/util/Preconditions" "SIOOBE_FORMATTER" "Ljava/util/function/BiFunction;" ∈ ge_tbl := (ge_tl 644 (by decide +kernel) rfl)
section Z2
variable {X : ge_X} {g : ge_G} {i : Nat}
theorem k_coder (hi : i < 2) : ge_N X ge_SH YJ0_coder_7d493 0 [.ref (ge_ad X.1 (1000 + i))] g (some (.int 0)) g := by
  refine gq_ofF (l := [(0, .ref (ge_ad X.1 (1000 + i)))]) (by decide +kernel) (Nat.le_of_ble_eq_true rfl) rfl ?_
  refine gs_cs (pc := 0) dJ0_coder_7d493_0 fs_cs ?_
  refine gq_if_eq (pc := 3) 13 dJ0_coder_7d493_3 (by decide) (fun h_3 => absurd h_3 (by decide)) (fun h_3 => ?_)
  refine gq_aload_n (pc := 6) dJ0_coder_7d493_6 rfl ?_
  refine gs_cod (pc := 7) hi dJ0_coder_7d493_7 fs_cod ?_
  refine gq_goto (pc := 10) 14 dJ0_coder_7d493_10 (by decide) ?_
  exact gq_tret (pc := 14) rfl rfl dJ0_coder_7d493_14 ⟨rfl, rfl⟩
theorem k_isLatin1 (hi : i < 2) : ge_N X ge_SH YJ0_isLatin1_aae02 0 [.ref (ge_ad X.1 (1000 + i))] g (some (.int 1)) g := by
  refine gq_ofF (l := [(0, .ref (ge_ad X.1 (1000 + i)))]) (by decide +kernel) (Nat.le_of_ble_eq_true rfl) rfl ?_
  refine gs_cs (pc := 0) dJ0_isLatin1_aae02_0 fs_cs ?_
  refine gq_if_eq (pc := 3) 17 dJ0_isLatin1_aae02_3 (by decide) (fun h_3 => absurd h_3 (by decide)) (fun h_3 => ?_)
  refine gq_aload_n (pc := 6) dJ0_isLatin1_aae02_6 rfl ?_
  refine gs_cod (pc := 7) hi dJ0_isLatin1_aae02_7 fs_cod ?_
  refine gq_if_ne (pc := 10) 17 dJ0_isLatin1_aae02_10 (by decide) (fun h_10 => absurd rfl h_10) (fun h_10 => ?_)
  refine gq_iconst (pc := 13) dJ0_isLatin1_aae02_13 kc_1 ?_
  refine gq_goto (pc := 14) 18 dJ0_isLatin1_aae02_14 (by decide) ?_
  exact gq_zret (pc := 18) rfl rfl dJ0_isLatin1_aae02_18 ⟨rfl, rfl⟩
theorem k_strlen (hi : i < 2) : ge_N X ge_SH YJ0_length_8abf5 1 [.ref (ge_ad X.1 (1000 + i))] g (some (.int 3)) g := by
  refine gq_ofF (l := [(0, .ref (ge_ad X.1 (1000 + i)))]) (by decide +kernel) (Nat.le_of_ble_eq_true rfl) rfl ?_
  refine gq_aload_n (pc := 0) dJ0_length_8abf5_0 rfl ?_
  refine gs_val (pc := 1) hi dJ0_length_8abf5_1 fs_val ?_
  refine gs_alen (pc := 4) hi dJ0_length_8abf5_4 ?_
  refine gq_aload_n (pc := 5) dJ0_length_8abf5_5 rfl ?_
  refine gs_rV0i (pc := 6) hi dJ0_length_8abf5_6 cv_J0_335 rfl (k_coder hi) ⟨by decide, by decide⟩ (Nat.le_of_ble_eq_true rfl) ?_
  refine gq_ishr (pc := 9) dJ0_length_8abf5_9 ?_
  exact gq_iret (pc := 10) rfl dJ0_length_8abf5_10 ⟨rfl, rfl⟩
theorem k_J3n {k : Nat} (hk : k < 3) : ge_N X ge_SH YJ3_checkIndex_8e157 0 [.int (nI k), .int 3, .null] g (some (.int (nI k))) g := by
  refine gq_ofF (l := [(0, .int (nI k)), (1, .int 3), (2, .null)]) (by decide +kernel) (Nat.le_of_ble_eq_true rfl) rfl ?_
  refine gq_iload_n (pc := 0) dJ3_checkIndex_8e157_0 rfl ?_
  refine gq_if_lt (pc := 1) 9 dJ3_checkIndex_8e157_1 (by decide) (fun h_1 => absurd h_1 (nI_pos (by omega))) (fun h_1 => ?_)
  refine gq_iload_n (pc := 4) dJ3_checkIndex_8e157_4 rfl ?_
  refine gq_iload_n (pc := 5) dJ3_checkIndex_8e157_5 rfl ?_
  refine gq_ic_lt (pc := 6) 16 dJ3_checkIndex_8e157_6 (by decide) (fun h_6 => ?_) (fun h_6 => absurd ((nI_ltI (b := 3) (by omega) (by decide)).mpr hk) h_6)
  refine gq_iload_n (pc := 16) dJ3_checkIndex_8e157_16 rfl ?_
  exact gq_iret (pc := 17) rfl dJ3_checkIndex_8e157_17 ⟨rfl, rfl⟩
theorem k_J3r {k a : Nat} (hk : k < 3) : ge_N X ge_SH YJ3_checkIndex_8e157 0 [.int (nI k), .int 3, .ref a] g (some (.int (nI k))) g := by
  refine gq_ofF (l := [(0, .int (nI k)), (1, .int 3), (2, .ref a)]) (by decide +kernel) (Nat.le_of_ble_eq_true rfl) rfl ?_
  refine gq_iload_n (pc := 0) dJ3_checkIndex_8e157_0 rfl ?_
  refine gq_if_lt (pc := 1) 9 dJ3_checkIndex_8e157_1 (by decide) (fun h_1 => absurd h_1 (nI_pos (by omega))) (fun h_1 => ?_)
  refine gq_iload_n (pc := 4) dJ3_checkIndex_8e157_4 rfl ?_
  refine gq_iload_n (pc := 5) dJ3_checkIndex_8e157_5 rfl ?_
  refine gq_ic_lt (pc := 6) 16 dJ3_checkIndex_8e157_6 (by decide) (fun h_6 => ?_) (fun h_6 => absurd ((nI_ltI (b := 3) (by omega) (by decide)).mpr hk) h_6)
  refine gq_iload_n (pc := 16) dJ3_checkIndex_8e157_16 rfl ?_
  exact gq_iret (pc := 17) rfl dJ3_checkIndex_8e157_17 ⟨rfl, rfl⟩
theorem k_J3 {k : Nat} (hk : k < 3) : ge_N X ge_SH YJ3_checkIndex_8e157 0 [.int (nI k), .int 3, ge_fv X] g (some (.int (nI k))) g := by
  unfold ge_fv
  split
  · exact k_J3n hk
  · exact k_J3r hk
theorem k_J0c {k : Nat} (hk : k < 3) : ge_N X ge_SH YJ0_checkIndex_df160 1 [.int (nI k), .int 3] g none g := by
  refine gq_ofF (l := [(0, .int (nI k)), (1, .int 3)]) (by decide +kernel) (Nat.le_of_ble_eq_true rfl) rfl ?_
  refine gq_iload_n (pc := 0) dJ0_checkIndex_df160_0 rfl ?_
  refine gq_iload_n (pc := 1) dJ0_checkIndex_df160_1 rfl ?_
  refine gs_fm (pc := 2) dJ0_checkIndex_df160_2 fs_fm ?_
  refine gq_rS3i (pc := 5) dJ0_checkIndex_df160_5 cs_J0_1059 (k_J3 hk) ⟨by decide, by decide⟩ (Nat.le_of_ble_eq_true rfl) ?_
  refine gq_pop (pc := 8) dJ0_checkIndex_df160_8 rfl ?_
  exact gq_vret (pc := 9) rfl dJ0_checkIndex_df160_9 ⟨rfl, rfl⟩
theorem p_chn : ∀ i, i < 2 → ∀ k, k < 3 → narrow .char (.int (p_ch i k)) = .int (p_ch i k) ∧ ((p_ch i k &&& 255).toUInt32 % 65536).toInt32 = p_ch i k := by
  intro i hi k hk
  rcases (by omega : i = 0 ∨ i = 1) with rfl | rfl
  all_goals rcases (by omega : k = 0 ∨ k = 1 ∨ k = 2) with rfl | rfl | rfl
  all_goals exact ⟨rfl, by decide⟩
theorem k_J1 {k : Nat} (hi : i < 2) (hk : k < 3) : ge_N X ge_SH YJ1_charAt_3b067 2 [.ref (ge_ad X.1 (1010 + i)), .int (nI k)] g (some (.int (p_ch i k))) g := by
  refine gq_ofF (l := [(0, .ref (ge_ad X.1 (1010 + i))), (1, .int (nI k))]) (by decide +kernel) (Nat.le_of_ble_eq_true rfl) rfl ?_
  refine gq_iload_n (pc := 0) dJ1_charAt_3b067_0 rfl ?_
  refine gq_aload_n (pc := 1) dJ1_charAt_3b067_1 rfl ?_
  refine gs_alen (pc := 2) hi dJ1_charAt_3b067_2 ?_
  refine gq_rS2v (pc := 3) dJ1_charAt_3b067_3 cs_J1_9 (k_J0c hk) ⟨by decide, by decide⟩ (Nat.le_of_ble_eq_true rfl) ?_
  refine gq_aload_n (pc := 6) dJ1_charAt_3b067_6 rfl ?_
  refine gq_iload_n (pc := 7) dJ1_charAt_3b067_7 rfl ?_
  refine gs_bald (pc := 8) hi hk dJ1_charAt_3b067_8 ?_
  refine gq_sipush (pc := 9) dJ1_charAt_3b067_9 kq_255 ?_
  refine gq_iand (pc := 12) dJ1_charAt_3b067_12 ?_
  refine gs_i2c (pc := 13) (p_chn i hi k hk).2 dJ1_charAt_3b067_13 ?_
  exact gq_tret (pc := 14) rfl (p_chn i hi k hk).1 dJ1_charAt_3b067_14 ⟨rfl, rfl⟩
theorem k_charAt {k : Nat} (hi : i < 2) (hk : k < 3) : ge_N X ge_SH YJ0_charAt_5068e 3 [.ref (ge_ad X.1 (1000 + i)), .int (nI k)] g (some (.int (p_ch i k))) g := by
  refine gq_ofF (l := [(0, .ref (ge_ad X.1 (1000 + i))), (1, .int (nI k))]) (by decide +kernel) (Nat.le_of_ble_eq_true rfl) rfl ?_
  refine gq_aload_n (pc := 0) dJ0_charAt_5068e_0 rfl ?_
  refine gs_rV0i (pc := 1) hi dJ0_charAt_5068e_1 cv_J0_492 rfl (k_isLatin1 hi) ⟨by decide, by decide⟩ (Nat.le_of_ble_eq_true rfl) ?_
  refine gq_if_eq (pc := 4) 16 dJ0_charAt_5068e_4 (by decide) (fun h_4 => absurd h_4 (by decide)) (fun h_4 => ?_)
  refine gq_aload_n (pc := 7) dJ0_charAt_5068e_7 rfl ?_
  refine gs_val (pc := 8) hi dJ0_charAt_5068e_8 fs_val ?_
  refine gq_iload_n (pc := 11) dJ0_charAt_5068e_11 rfl ?_
  refine gq_rS2i (pc := 12) dJ0_charAt_5068e_12 cs_J0_495 (k_J1 hi hk) ⟨by decide, by decide⟩ (Nat.le_of_ble_eq_true rfl) ?_
  exact gq_tret (pc := 15) rfl (p_chn i hi k hk).1 dJ0_charAt_5068e_15 ⟨rfl, rfl⟩
end Z2
