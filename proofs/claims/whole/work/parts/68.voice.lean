section V1
variable {X : ge_X} {g : ge_G} {r x hb f : Nat → Int32} {c V E : Nat}
theorem cq_X0_33 : ge_cq RX0 33 3 ⟨RX6, "tells", "(III)I"⟩ YX1_tells := ⟨ge_uw [881, 882, 173, 149, 874, 69] (by decide +kernel) (by decide +kernel), (ge_tl 901 (by decide +kernel) rfl), by decide +kernel⟩
theorem cq_X5_40 : ge_cq RX5 40 3 ⟨RX3, "tells", "(III)I"⟩ YX1_tells := ⟨ge_uw [897, 898, 189, 165, 874, 69] (by decide +kernel) (by decide +kernel), (ge_tl 901 (by decide +kernel) rfl), by decide +kernel⟩
def p_adds (g : ge_G) (k : Nat) : List Int32 → ge_G
  | [] => g
  | v :: L => p_adds (ge_up (ge_up g 2 k v) 1 1 (nI (k + 1))) (k + 1) L
def p_addm (g : ge_G) (k : Nat) : List Int32 → ge_G
  | [] => g
  | v :: L => p_addm (ge_up g 86 k v) (k + 1) L
theorem p_adds_o {q : Nat} (h : q ≠ 1 ∧ q ≠ 2) : ∀ (L : List Int32) (g : ge_G) (k : Nat), p_adds g k L q = g q := by
  intro L
  induction L with
  | nil => intro g k; rfl
  | cons v L ih =>
    intro g k
    show p_adds _ (k + 1) L q = _
    rw [ih, ge_up_row _ _ _ h.1, ge_up_row _ _ _ h.2]
theorem p_adds_1 {k : Nat} (hk : g 1 1 = nI k) : ∀ (L : List Int32), p_adds g k L 1 1 = nI (k + L.length) := by
  intro L
  induction L generalizing g k with
  | nil => exact hk
  | cons v L ih =>
    show p_adds (ge_up (ge_up g 2 k v) 1 1 (nI (k + 1))) (k + 1) L 1 1 = _
    rw [ih (k := k + 1) rfl, List.length_cons, show k + 1 + L.length = k + (L.length + 1) by omega]
theorem p_adds_app (g : ge_G) (k : Nat) : ∀ (L1 L2 : List Int32), p_adds (p_adds g k L1) (k + L1.length) L2 = p_adds g k (L1 ++ L2) := by
  intro L1
  induction L1 generalizing g k with
  | nil => intro L2; rfl
  | cons v L ih =>
    intro L2
    show p_adds (p_adds (ge_up (ge_up g 2 k v) 1 1 (nI (k + 1))) (k + 1) L) (k + (L.length + 1)) L2 = p_adds (ge_up (ge_up g 2 k v) 1 1 (nI (k + 1))) (k + 1) (L ++ L2)
    rw [← ih, show k + (L.length + 1) = k + 1 + L.length by omega]
theorem p_addm_app (g : ge_G) (k : Nat) : ∀ (L1 L2 : List Int32), p_addm (p_addm g k L1) (k + L1.length) L2 = p_addm g k (L1 ++ L2) := by
  intro L1
  induction L1 generalizing g k with
  | nil => intro L2; rfl
  | cons v L ih =>
    intro L2
    show p_addm (p_addm (ge_up g 86 k v) (k + 1) L) (k + (L.length + 1)) L2 = p_addm (ge_up g 86 k v) (k + 1) (L ++ L2)
    rw [← ih, show k + (L.length + 1) = k + 1 + L.length by omega]
theorem p_addm_o {q : Nat} (h : q ≠ 86) : ∀ (L : List Int32) (g : ge_G) (k : Nat), p_addm g k L q = g q := by
  intro L
  induction L with
  | nil => intro g k; rfl
  | cons v L ih =>
    intro g k
    show p_addm _ (k + 1) L q = _
    rw [ih, ge_up_row _ _ _ h]
set_option maxHeartbeats 400000 in
theorem r_add_1 {v : Int32} {k : Nat} (hn : g 1 1 = nI k) (h : k < 40) : ge_N X ge_SH YX7_add 0 [.ref (ge_ad X.1 1), .int v] (ge_k g 25 r x hb) none (ge_k (p_adds g k [v]) 25 r x hb) := by
  refine gq_ofB (l := [(0, .ref (ge_ad X.1 1)), (1, .int v)]) (by decide) (Nat.le_of_ble_eq_true rfl) rfl ?_
  refine gq_aload_n (pc := 0) dX7_add_0 rfl ?_
  refine kq_geto (pw := 25) (pc := 1) (by decide) dX7_add_1 fl_X7_13_7 sh_1 rfl (by unfold ge_Z; omega) ?_
  refine gq_aload_n (pc := 4) dX7_add_4 rfl ?_
  refine gq_getr (pc := 5) dX7_add_5 fl_X7_7_7 sh_1 rfl ?_
  refine gq_alen (pc := 8) (v := 40) dX7_add_8 sh_2 rfl ?_
  refine gq_ic_ge (pc := 9) 32 dX7_add_9 (by decide) (fun h_9 => ?_) (fun h_9 => ?_)
  · exact absurd ((nI_leI (a := 40) (by omega) (by omega)).mp (hn ▸ h_9)) (by omega)
  · refine gq_aload_n (pc := 12) dX7_add_12 rfl ?_
    refine gq_getr (pc := 13) dX7_add_13 fl_X7_7_7 sh_1 rfl ?_
    refine gq_aload_n (pc := 16) dX7_add_16 rfl ?_
    refine kq_geto (pw := 25) (pc := 17) (by decide) dX7_add_17 fl_X7_13_7 sh_1 rfl (by unfold ge_Z; omega) ?_
    refine gq_iload_n (pc := 20) dX7_add_20 rfl ?_
    refine kq_asto (pw := 25) (pc := 21) (by decide) dX7_add_21 sh_2 hn (by first | decide | omega) (by decide) ?_
    refine gq_aload_n (pc := 22) dX7_add_22 rfl ?_
    refine gq_dup (pc := 23) dX7_add_23 rfl ?_
    refine kq_geto (pw := 25) (pc := 24) (by decide) dX7_add_24 fl_X7_13_7 sh_1 rfl (by unfold ge_Z; omega) ?_
    refine gq_iconst (pc := 27) dX7_add_27 kc_1 ?_
    rw [show ge_up g 2 k v 1 1 = nI k from hn]
    refine gq_iadd (pc := 28) dX7_add_28 ?_
    rw [nI_1]
    refine kq_puto (pw := 25) (pc := 29) (by decide) dX7_add_29 fp_X7_13_7 sh_1 rfl ?_
    exact gq_vret (pc := 32) rfl dX7_add_32 ⟨rfl, rfl⟩
set_option maxHeartbeats 400000 in
theorem c_X1_sees_4 {n m a : Int32} {k : Nat} (hk : g 1 1 = nI k) (hk2 : k + 1 ≤ 40) : ge_N X ge_SH YX1_sees 1 [.ref (ge_ad X.1 4), .int n, .int m, .int a] (ge_k g 25 r x hb) (some (.int (a + n))) (ge_k (p_adds g k [10]) 25 r x hb) := by
  refine gq_ofB (l := [(0, .ref (ge_ad X.1 4)), (1, .int n), (2, .int m), (3, .int a)]) (by decide) (Nat.le_of_ble_eq_true rfl) rfl ?_
  refine gq_aload_n (pc := 0) dX1_sees_0 rfl ?_
  refine gq_getr (pc := 1) dX1_sees_1 fl_X1_7_1 sh_4 rfl ?_
  refine gq_bipush (pc := 4) dX1_sees_4 kb_10 ?_
  refine gq_rV1v (pc := 6) dX1_sees_6 cv_X1_13 sh_1 (r_add_1 hk (by omega)) ⟨by decide, by decide⟩ rfl rfl (Nat.le_of_ble_eq_true rfl) ?_
  refine gq_iload_n (pc := 9) dX1_sees_9 rfl ?_
  refine gq_iload_n (pc := 10) dX1_sees_10 rfl ?_
  refine gq_iadd (pc := 11) dX1_sees_11 ?_
  exact gq_iret (pc := 12) rfl dX1_sees_12 ⟨rfl, rfl⟩
set_option maxHeartbeats 400000 in
theorem c_X1_blinks_4 {n m a : Int32} {k : Nat} (hk : g 1 1 = nI k) (hk2 : k + 1 ≤ 40) : ge_N X ge_SH YX1_blinks 1 [.ref (ge_ad X.1 4), .int n, .int m, .int a] (ge_k g 25 r x hb) (some (.int (a - m))) (ge_k (p_adds g k [12]) 25 r x hb) := by
  refine gq_ofB (l := [(0, .ref (ge_ad X.1 4)), (1, .int n), (2, .int m), (3, .int a)]) (by decide) (Nat.le_of_ble_eq_true rfl) rfl ?_
  refine gq_aload_n (pc := 0) dX1_blinks_0 rfl ?_
  refine gq_getr (pc := 1) dX1_blinks_1 fl_X1_7_1 sh_4 rfl ?_
  refine gq_bipush (pc := 4) dX1_blinks_4 kb_12 ?_
  refine gq_rV1v (pc := 6) dX1_blinks_6 cv_X1_13 sh_1 (r_add_1 hk (by omega)) ⟨by decide, by decide⟩ rfl rfl (Nat.le_of_ble_eq_true rfl) ?_
  refine gq_iload_n (pc := 9) dX1_blinks_9 rfl ?_
  refine gq_iload_n (pc := 10) dX1_blinks_10 rfl ?_
  refine gq_isub (pc := 11) dX1_blinks_11 ?_
  exact gq_iret (pc := 12) rfl dX1_blinks_12 ⟨rfl, rfl⟩
set_option maxHeartbeats 400000 in
theorem c_X1_looks_4 {n m a : Int32} {k : Nat} (hk : g 1 1 = nI k) (hk2 : k + 2 ≤ 40) : ge_N X ge_SH YX1_looks 3 [.ref (ge_ad X.1 4), .int n, .int m, .int a] (ge_k g 25 r x hb) (some (.int ((a + n) * 2))) (ge_k (p_adds g k [11, 10]) 25 r x hb) := by
  refine gq_ofB (l := [(0, .ref (ge_ad X.1 4)), (1, .int n), (2, .int m), (3, .int a)]) (by decide) (Nat.le_of_ble_eq_true rfl) rfl ?_
  refine gq_aload_n (pc := 0) dX1_looks_0 rfl ?_
  refine gq_getr (pc := 1) dX1_looks_1 fl_X1_7_1 sh_4 rfl ?_
  refine gq_bipush (pc := 4) dX1_looks_4 kb_11 ?_
  refine gq_rV1v (pc := 6) dX1_looks_6 cv_X1_13 sh_1 (r_add_1 hk (by omega)) ⟨by decide, by decide⟩ rfl rfl (Nat.le_of_ble_eq_true rfl) ?_
  refine gq_aload_n (pc := 9) dX1_looks_9 rfl ?_
  refine gq_iload_n (pc := 10) dX1_looks_10 rfl ?_
  refine gq_iload_n (pc := 11) dX1_looks_11 rfl ?_
  refine gq_iload_n (pc := 12) dX1_looks_12 rfl ?_
  refine gq_rU3i (pc := 13) dX1_looks_13 cu_X1_19_1 sh_4 (c_X1_sees_4 (g := p_adds g k [11]) (k := k + 1) (p_adds_1 hk [11]) (by omega)) ⟨by decide, by decide⟩ rfl rfl (Nat.le_of_ble_eq_true rfl) ?_
  refine gq_tog (g := ge_k (p_adds g k [11, 10]) 25 r x hb) (congrArg (fun q => ge_k q 25 r x hb) (p_adds_app g k [11] [10]).symm) ?_
  refine gq_iconst (pc := 16) dX1_looks_16 kc_2 ?_
  refine gq_imul (pc := 17) dX1_looks_17 ?_
  exact gq_iret (pc := 18) rfl dX1_looks_18 ⟨rfl, rfl⟩
set_option maxHeartbeats 400000 in
theorem c_X1_tells_4 {n m a : Int32} {k : Nat} (hk : g 1 1 = nI k) (hk2 : k + 4 ≤ 40) : ge_N X ge_SH YX1_tells 6 [.ref (ge_ad X.1 4), .int n, .int m, .int a] (ge_k g 25 r x hb) (some (.int (((a + n) * 2) ^^^ (a - m)))) (ge_k (p_adds g k [13, 11, 10, 12]) 25 r x hb) := by
  refine gq_ofB (l := [(0, .ref (ge_ad X.1 4)), (1, .int n), (2, .int m), (3, .int a)]) (by decide) (Nat.le_of_ble_eq_true rfl) rfl ?_
  refine gq_aload_n (pc := 0) dX1_tells_0 rfl ?_
  refine gq_getr (pc := 1) dX1_tells_1 fl_X1_7_1 sh_4 rfl ?_
  refine gq_bipush (pc := 4) dX1_tells_4 kb_13 ?_
  refine gq_rV1v (pc := 6) dX1_tells_6 cv_X1_13 sh_1 (r_add_1 hk (by omega)) ⟨by decide, by decide⟩ rfl rfl (Nat.le_of_ble_eq_true rfl) ?_
  refine gq_aload_n (pc := 9) dX1_tells_9 rfl ?_
  refine gq_iload_n (pc := 10) dX1_tells_10 rfl ?_
  refine gq_iload_n (pc := 11) dX1_tells_11 rfl ?_
  refine gq_iload_n (pc := 12) dX1_tells_12 rfl ?_
  refine gq_rU3i (pc := 13) dX1_tells_13 cu_X1_23_1 sh_4 (c_X1_looks_4 (g := p_adds g k [13]) (k := k + 1) (p_adds_1 hk [13]) (by omega)) ⟨by decide, by decide⟩ rfl rfl (Nat.le_of_ble_eq_true rfl) ?_
  refine gq_tog (g := ge_k (p_adds g k [13, 11, 10]) 25 r x hb) (congrArg (fun q => ge_k q 25 r x hb) (p_adds_app g k [13] [11, 10]).symm) ?_
  refine gq_aload_n (pc := 16) dX1_tells_16 rfl ?_
  refine gq_iload_n (pc := 17) dX1_tells_17 rfl ?_
  refine gq_iload_n (pc := 18) dX1_tells_18 rfl ?_
  refine gq_iload_n (pc := 19) dX1_tells_19 rfl ?_
  refine gq_rU3i (pc := 20) dX1_tells_20 cu_X1_26_1 sh_4 (c_X1_blinks_4 (g := p_adds g k [13, 11, 10]) (k := k + 3) (p_adds_1 hk [13, 11, 10]) (by omega)) ⟨by decide, by decide⟩ rfl rfl (Nat.le_of_ble_eq_true rfl) ?_
  refine gq_tog (g := ge_k (p_adds g k [13, 11, 10, 12]) 25 r x hb) (congrArg (fun q => ge_k q 25 r x hb) (p_adds_app g k [13, 11, 10] [12]).symm) ?_
  refine gq_ixor (pc := 23) dX1_tells_23 ?_
  exact gq_iret (pc := 24) rfl dX1_tells_24 ⟨rfl, rfl⟩
set_option maxHeartbeats 400000 in
theorem c_X1_sees_5 {n m a : Int32} {k : Nat} (hk : g 1 1 = nI k) (hk2 : k + 1 ≤ 40) : ge_N X ge_SH YX1_sees 1 [.ref (ge_ad X.1 5), .int n, .int m, .int a] (ge_k g 25 r x hb) (some (.int (a + n))) (ge_k (p_adds g k [10]) 25 r x hb) := by
  refine gq_ofB (l := [(0, .ref (ge_ad X.1 5)), (1, .int n), (2, .int m), (3, .int a)]) (by decide) (Nat.le_of_ble_eq_true rfl) rfl ?_
  refine gq_aload_n (pc := 0) dX1_sees_0 rfl ?_
  refine gq_getr (pc := 1) dX1_sees_1 fl_X1_7_6 sh_5 rfl ?_
  refine gq_bipush (pc := 4) dX1_sees_4 kb_10 ?_
  refine gq_rV1v (pc := 6) dX1_sees_6 cv_X1_13 sh_1 (r_add_1 hk (by omega)) ⟨by decide, by decide⟩ rfl rfl (Nat.le_of_ble_eq_true rfl) ?_
  refine gq_iload_n (pc := 9) dX1_sees_9 rfl ?_
  refine gq_iload_n (pc := 10) dX1_sees_10 rfl ?_
  refine gq_iadd (pc := 11) dX1_sees_11 ?_
  exact gq_iret (pc := 12) rfl dX1_sees_12 ⟨rfl, rfl⟩
set_option maxHeartbeats 400000 in
theorem c_X6_sees_5 {n m a : Int32} {k : Nat} (hk : g 1 1 = nI k) (hk2 : k + 2 ≤ 40) : ge_N X ge_SH YX6_sees 2 [.ref (ge_ad X.1 5), .int n, .int m, .int a] (ge_k g 25 r x hb) (some (.int ((a + n) * 3))) (ge_k (p_adds g k [20, 10]) 25 r x hb) := by
  refine gq_ofB (l := [(0, .ref (ge_ad X.1 5)), (1, .int n), (2, .int m), (3, .int a)]) (by decide) (Nat.le_of_ble_eq_true rfl) rfl ?_
  refine gq_aload_n (pc := 0) dX6_sees_0 rfl ?_
  refine gq_getr (pc := 1) dX6_sees_1 fl_X6_17_6 sh_5 rfl ?_
  refine gq_bipush (pc := 4) dX6_sees_4 kb_20 ?_
  refine gq_rV1v (pc := 6) dX6_sees_6 cv_X6_23 sh_1 (r_add_1 hk (by omega)) ⟨by decide, by decide⟩ rfl rfl (Nat.le_of_ble_eq_true rfl) ?_
  refine gq_aload_n (pc := 9) dX6_sees_9 rfl ?_
  refine gq_iload_n (pc := 10) dX6_sees_10 rfl ?_
  refine gq_iload_n (pc := 11) dX6_sees_11 rfl ?_
  refine gq_iload_n (pc := 12) dX6_sees_12 rfl ?_
  refine gq_rP3i (pc := 13) dX6_sees_13 cp_X6_29 sh_5 (c_X1_sees_5 (g := p_adds g k [20]) (k := k + 1) (p_adds_1 hk [20]) (by omega)) ⟨by decide, by decide⟩ rfl (Nat.le_of_ble_eq_true rfl) ?_
  refine gq_tog (g := ge_k (p_adds g k [20, 10]) 25 r x hb) (congrArg (fun q => ge_k q 25 r x hb) (p_adds_app g k [20] [10]).symm) ?_
  refine gq_iconst (pc := 16) dX6_sees_16 kc_3 ?_
  refine gq_imul (pc := 17) dX6_sees_17 ?_
  exact gq_iret (pc := 18) rfl dX6_sees_18 ⟨rfl, rfl⟩
set_option maxHeartbeats 400000 in
theorem c_X1_blinks_5 {n m a : Int32} {k : Nat} (hk : g 1 1 = nI k) (hk2 : k + 1 ≤ 40) : ge_N X ge_SH YX1_blinks 1 [.ref (ge_ad X.1 5), .int n, .int m, .int a] (ge_k g 25 r x hb) (some (.int (a - m))) (ge_k (p_adds g k [12]) 25 r x hb) := by
  refine gq_ofB (l := [(0, .ref (ge_ad X.1 5)), (1, .int n), (2, .int m), (3, .int a)]) (by decide) (Nat.le_of_ble_eq_true rfl) rfl ?_
  refine gq_aload_n (pc := 0) dX1_blinks_0 rfl ?_
  refine gq_getr (pc := 1) dX1_blinks_1 fl_X1_7_6 sh_5 rfl ?_
  refine gq_bipush (pc := 4) dX1_blinks_4 kb_12 ?_
  refine gq_rV1v (pc := 6) dX1_blinks_6 cv_X1_13 sh_1 (r_add_1 hk (by omega)) ⟨by decide, by decide⟩ rfl rfl (Nat.le_of_ble_eq_true rfl) ?_
  refine gq_iload_n (pc := 9) dX1_blinks_9 rfl ?_
  refine gq_iload_n (pc := 10) dX1_blinks_10 rfl ?_
  refine gq_isub (pc := 11) dX1_blinks_11 ?_
  exact gq_iret (pc := 12) rfl dX1_blinks_12 ⟨rfl, rfl⟩
set_option maxHeartbeats 400000 in
theorem c_X1_looks_5 {n m a : Int32} {k : Nat} (hk : g 1 1 = nI k) (hk2 : k + 3 ≤ 40) : ge_N X ge_SH YX1_looks 3 [.ref (ge_ad X.1 5), .int n, .int m, .int a] (ge_k g 25 r x hb) (some (.int (((a + n) * 3) * 2))) (ge_k (p_adds g k [11, 20, 10]) 25 r x hb) := by
  refine gq_ofB (l := [(0, .ref (ge_ad X.1 5)), (1, .int n), (2, .int m), (3, .int a)]) (by decide) (Nat.le_of_ble_eq_true rfl) rfl ?_
  refine gq_aload_n (pc := 0) dX1_looks_0 rfl ?_
  refine gq_getr (pc := 1) dX1_looks_1 fl_X1_7_6 sh_5 rfl ?_
  refine gq_bipush (pc := 4) dX1_looks_4 kb_11 ?_
  refine gq_rV1v (pc := 6) dX1_looks_6 cv_X1_13 sh_1 (r_add_1 hk (by omega)) ⟨by decide, by decide⟩ rfl rfl (Nat.le_of_ble_eq_true rfl) ?_
  refine gq_aload_n (pc := 9) dX1_looks_9 rfl ?_
  refine gq_iload_n (pc := 10) dX1_looks_10 rfl ?_
  refine gq_iload_n (pc := 11) dX1_looks_11 rfl ?_
  refine gq_iload_n (pc := 12) dX1_looks_12 rfl ?_
  refine gq_rU3i (pc := 13) dX1_looks_13 cu_X1_19_6 sh_5 (c_X6_sees_5 (g := p_adds g k [11]) (k := k + 1) (p_adds_1 hk [11]) (by omega)) ⟨by decide, by decide⟩ rfl rfl (Nat.le_of_ble_eq_true rfl) ?_
  refine gq_tog (g := ge_k (p_adds g k [11, 20, 10]) 25 r x hb) (congrArg (fun q => ge_k q 25 r x hb) (p_adds_app g k [11] [20, 10]).symm) ?_
  refine gq_iconst (pc := 16) dX1_looks_16 kc_2 ?_
  refine gq_imul (pc := 17) dX1_looks_17 ?_
  exact gq_iret (pc := 18) rfl dX1_looks_18 ⟨rfl, rfl⟩
set_option maxHeartbeats 400000 in
theorem c_X1_tells_5 {n m a : Int32} {k : Nat} (hk : g 1 1 = nI k) (hk2 : k + 5 ≤ 40) : ge_N X ge_SH YX1_tells 6 [.ref (ge_ad X.1 5), .int n, .int m, .int a] (ge_k g 25 r x hb) (some (.int ((((a + n) * 3) * 2) ^^^ (a - m)))) (ge_k (p_adds g k [13, 11, 20, 10, 12]) 25 r x hb) := by
  refine gq_ofB (l := [(0, .ref (ge_ad X.1 5)), (1, .int n), (2, .int m), (3, .int a)]) (by decide) (Nat.le_of_ble_eq_true rfl) rfl ?_
  refine gq_aload_n (pc := 0) dX1_tells_0 rfl ?_
  refine gq_getr (pc := 1) dX1_tells_1 fl_X1_7_6 sh_5 rfl ?_
  refine gq_bipush (pc := 4) dX1_tells_4 kb_13 ?_
  refine gq_rV1v (pc := 6) dX1_tells_6 cv_X1_13 sh_1 (r_add_1 hk (by omega)) ⟨by decide, by decide⟩ rfl rfl (Nat.le_of_ble_eq_true rfl) ?_
  refine gq_aload_n (pc := 9) dX1_tells_9 rfl ?_
  refine gq_iload_n (pc := 10) dX1_tells_10 rfl ?_
  refine gq_iload_n (pc := 11) dX1_tells_11 rfl ?_
  refine gq_iload_n (pc := 12) dX1_tells_12 rfl ?_
  refine gq_rU3i (pc := 13) dX1_tells_13 cu_X1_23_6 sh_5 (c_X1_looks_5 (g := p_adds g k [13]) (k := k + 1) (p_adds_1 hk [13]) (by omega)) ⟨by decide, by decide⟩ rfl rfl (Nat.le_of_ble_eq_true rfl) ?_
  refine gq_tog (g := ge_k (p_adds g k [13, 11, 20, 10]) 25 r x hb) (congrArg (fun q => ge_k q 25 r x hb) (p_adds_app g k [13] [11, 20, 10]).symm) ?_
  refine gq_aload_n (pc := 16) dX1_tells_16 rfl ?_
  refine gq_iload_n (pc := 17) dX1_tells_17 rfl ?_
  refine gq_iload_n (pc := 18) dX1_tells_18 rfl ?_
  refine gq_iload_n (pc := 19) dX1_tells_19 rfl ?_
  refine gq_rU3i (pc := 20) dX1_tells_20 cu_X1_26_6 sh_5 (c_X1_blinks_5 (g := p_adds g k [13, 11, 20, 10]) (k := k + 4) (p_adds_1 hk [13, 11, 20, 10]) (by omega)) ⟨by decide, by decide⟩ rfl rfl (Nat.le_of_ble_eq_true rfl) ?_
  refine gq_tog (g := ge_k (p_adds g k [13, 11, 20, 10, 12]) 25 r x hb) (congrArg (fun q => ge_k q 25 r x hb) (p_adds_app g k [13, 11, 20, 10] [12]).symm) ?_
  refine gq_ixor (pc := 23) dX1_tells_23 ?_
  exact gq_iret (pc := 24) rfl dX1_tells_24 ⟨rfl, rfl⟩
set_option maxHeartbeats 400000 in
theorem c_X1_sees_6 {n m a : Int32} {k : Nat} (hk : g 1 1 = nI k) (hk2 : k + 1 ≤ 40) : ge_N X ge_SH YX1_sees 1 [.ref (ge_ad X.1 6), .int n, .int m, .int a] (ge_k g 25 r x hb) (some (.int (a + n))) (ge_k (p_adds g k [10]) 25 r x hb) := by
  refine gq_ofB (l := [(0, .ref (ge_ad X.1 6)), (1, .int n), (2, .int m), (3, .int a)]) (by decide) (Nat.le_of_ble_eq_true rfl) rfl ?_
  refine gq_aload_n (pc := 0) dX1_sees_0 rfl ?_
  refine gq_getr (pc := 1) dX1_sees_1 fl_X1_7_2 sh_6 rfl ?_
  refine gq_bipush (pc := 4) dX1_sees_4 kb_10 ?_
  refine gq_rV1v (pc := 6) dX1_sees_6 cv_X1_13 sh_1 (r_add_1 hk (by omega)) ⟨by decide, by decide⟩ rfl rfl (Nat.le_of_ble_eq_true rfl) ?_
  refine gq_iload_n (pc := 9) dX1_sees_9 rfl ?_
  refine gq_iload_n (pc := 10) dX1_sees_10 rfl ?_
  refine gq_iadd (pc := 11) dX1_sees_11 ?_
  exact gq_iret (pc := 12) rfl dX1_sees_12 ⟨rfl, rfl⟩
set_option maxHeartbeats 400000 in
theorem c_X1_blinks_6 {n m a : Int32} {k : Nat} (hk : g 1 1 = nI k) (hk2 : k + 1 ≤ 40) : ge_N X ge_SH YX1_blinks 1 [.ref (ge_ad X.1 6), .int n, .int m, .int a] (ge_k g 25 r x hb) (some (.int (a - m))) (ge_k (p_adds g k [12]) 25 r x hb) := by
  refine gq_ofB (l := [(0, .ref (ge_ad X.1 6)), (1, .int n), (2, .int m), (3, .int a)]) (by decide) (Nat.le_of_ble_eq_true rfl) rfl ?_
  refine gq_aload_n (pc := 0) dX1_blinks_0 rfl ?_
  refine gq_getr (pc := 1) dX1_blinks_1 fl_X1_7_2 sh_6 rfl ?_
  refine gq_bipush (pc := 4) dX1_blinks_4 kb_12 ?_
  refine gq_rV1v (pc := 6) dX1_blinks_6 cv_X1_13 sh_1 (r_add_1 hk (by omega)) ⟨by decide, by decide⟩ rfl rfl (Nat.le_of_ble_eq_true rfl) ?_
  refine gq_iload_n (pc := 9) dX1_blinks_9 rfl ?_
  refine gq_iload_n (pc := 10) dX1_blinks_10 rfl ?_
  refine gq_isub (pc := 11) dX1_blinks_11 ?_
  exact gq_iret (pc := 12) rfl dX1_blinks_12 ⟨rfl, rfl⟩
set_option maxHeartbeats 400000 in
theorem c_X1_looks_6 {n m a : Int32} {k : Nat} (hk : g 1 1 = nI k) (hk2 : k + 2 ≤ 40) : ge_N X ge_SH YX1_looks 3 [.ref (ge_ad X.1 6), .int n, .int m, .int a] (ge_k g 25 r x hb) (some (.int ((a + n) * 2))) (ge_k (p_adds g k [11, 10]) 25 r x hb) := by
  refine gq_ofB (l := [(0, .ref (ge_ad X.1 6)), (1, .int n), (2, .int m), (3, .int a)]) (by decide) (Nat.le_of_ble_eq_true rfl) rfl ?_
  refine gq_aload_n (pc := 0) dX1_looks_0 rfl ?_
  refine gq_getr (pc := 1) dX1_looks_1 fl_X1_7_2 sh_6 rfl ?_
  refine gq_bipush (pc := 4) dX1_looks_4 kb_11 ?_
  refine gq_rV1v (pc := 6) dX1_looks_6 cv_X1_13 sh_1 (r_add_1 hk (by omega)) ⟨by decide, by decide⟩ rfl rfl (Nat.le_of_ble_eq_true rfl) ?_
  refine gq_aload_n (pc := 9) dX1_looks_9 rfl ?_
  refine gq_iload_n (pc := 10) dX1_looks_10 rfl ?_
  refine gq_iload_n (pc := 11) dX1_looks_11 rfl ?_
  refine gq_iload_n (pc := 12) dX1_looks_12 rfl ?_
  refine gq_rU3i (pc := 13) dX1_looks_13 cu_X1_19_2 sh_6 (c_X1_sees_6 (g := p_adds g k [11]) (k := k + 1) (p_adds_1 hk [11]) (by omega)) ⟨by decide, by decide⟩ rfl rfl (Nat.le_of_ble_eq_true rfl) ?_
  refine gq_tog (g := ge_k (p_adds g k [11, 10]) 25 r x hb) (congrArg (fun q => ge_k q 25 r x hb) (p_adds_app g k [11] [10]).symm) ?_
  refine gq_iconst (pc := 16) dX1_looks_16 kc_2 ?_
  refine gq_imul (pc := 17) dX1_looks_17 ?_
  exact gq_iret (pc := 18) rfl dX1_looks_18 ⟨rfl, rfl⟩
set_option maxHeartbeats 400000 in
theorem c_X2_looks_6 {n m a : Int32} {k : Nat} (hk : g 1 1 = nI k) (hk2 : k + 4 ≤ 40) : ge_N X ge_SH YX2_looks 4 [.ref (ge_ad X.1 6), .int n, .int m, .int a] (ge_k g 25 r x hb) (some (.int (((a + n) * 2) - (1 - m)))) (ge_k (p_adds g k [30, 11, 10, 12]) 25 r x hb) := by
  refine gq_ofB (l := [(0, .ref (ge_ad X.1 6)), (1, .int n), (2, .int m), (3, .int a)]) (by decide) (Nat.le_of_ble_eq_true rfl) rfl ?_
  refine gq_aload_n (pc := 0) dX2_looks_0 rfl ?_
  refine gq_getr (pc := 1) dX2_looks_1 fl_X2_11_2 sh_6 rfl ?_
  refine gq_bipush (pc := 4) dX2_looks_4 kb_30 ?_
  refine gq_rV1v (pc := 6) dX2_looks_6 cv_X2_17 sh_1 (r_add_1 hk (by omega)) ⟨by decide, by decide⟩ rfl rfl (Nat.le_of_ble_eq_true rfl) ?_
  refine gq_aload_n (pc := 9) dX2_looks_9 rfl ?_
  refine gq_iload_n (pc := 10) dX2_looks_10 rfl ?_
  refine gq_iload_n (pc := 11) dX2_looks_11 rfl ?_
  refine gq_iload_n (pc := 12) dX2_looks_12 rfl ?_
  refine gq_rP3i (pc := 13) dX2_looks_13 cp_X2_23 sh_6 (c_X1_looks_6 (g := p_adds g k [30]) (k := k + 1) (p_adds_1 hk [30]) (by omega)) ⟨by decide, by decide⟩ rfl (Nat.le_of_ble_eq_true rfl) ?_
  refine gq_tog (g := ge_k (p_adds g k [30, 11, 10]) 25 r x hb) (congrArg (fun q => ge_k q 25 r x hb) (p_adds_app g k [30] [11, 10]).symm) ?_
  refine gq_aload_n (pc := 16) dX2_looks_16 rfl ?_
  refine gq_iload_n (pc := 17) dX2_looks_17 rfl ?_
  refine gq_iload_n (pc := 18) dX2_looks_18 rfl ?_
  refine gq_iconst (pc := 19) dX2_looks_19 kc_1 ?_
  refine gq_rU3i (pc := 20) dX2_looks_20 cu_X2_27_2 sh_6 (c_X1_blinks_6 (g := p_adds g k [30, 11, 10]) (k := k + 3) (p_adds_1 hk [30, 11, 10]) (by omega)) ⟨by decide, by decide⟩ rfl rfl (Nat.le_of_ble_eq_true rfl) ?_
  refine gq_tog (g := ge_k (p_adds g k [30, 11, 10, 12]) 25 r x hb) (congrArg (fun q => ge_k q 25 r x hb) (p_adds_app g k [30, 11, 10] [12]).symm) ?_
  refine gq_isub (pc := 23) dX2_looks_23 ?_
  exact gq_iret (pc := 24) rfl dX2_looks_24 ⟨rfl, rfl⟩
set_option maxHeartbeats 400000 in
theorem c_X1_tells_6 {n m a : Int32} {k : Nat} (hk : g 1 1 = nI k) (hk2 : k + 6 ≤ 40) : ge_N X ge_SH YX1_tells 6 [.ref (ge_ad X.1 6), .int n, .int m, .int a] (ge_k g 25 r x hb) (some (.int ((((a + n) * 2) - (1 - m)) ^^^ (a - m)))) (ge_k (p_adds g k [13, 30, 11, 10, 12, 12]) 25 r x hb) := by
  refine gq_ofB (l := [(0, .ref (ge_ad X.1 6)), (1, .int n), (2, .int m), (3, .int a)]) (by decide) (Nat.le_of_ble_eq_true rfl) rfl ?_
  refine gq_aload_n (pc := 0) dX1_tells_0 rfl ?_
  refine gq_getr (pc := 1) dX1_tells_1 fl_X1_7_2 sh_6 rfl ?_
  refine gq_bipush (pc := 4) dX1_tells_4 kb_13 ?_
  refine gq_rV1v (pc := 6) dX1_tells_6 cv_X1_13 sh_1 (r_add_1 hk (by omega)) ⟨by decide, by decide⟩ rfl rfl (Nat.le_of_ble_eq_true rfl) ?_
  refine gq_aload_n (pc := 9) dX1_tells_9 rfl ?_
  refine gq_iload_n (pc := 10) dX1_tells_10 rfl ?_
  refine gq_iload_n (pc := 11) dX1_tells_11 rfl ?_
  refine gq_iload_n (pc := 12) dX1_tells_12 rfl ?_
  refine gq_rU3i (pc := 13) dX1_tells_13 cu_X1_23_2 sh_6 (c_X2_looks_6 (g := p_adds g k [13]) (k := k + 1) (p_adds_1 hk [13]) (by omega)) ⟨by decide, by decide⟩ rfl rfl (Nat.le_of_ble_eq_true rfl) ?_
  refine gq_tog (g := ge_k (p_adds g k [13, 30, 11, 10, 12]) 25 r x hb) (congrArg (fun q => ge_k q 25 r x hb) (p_adds_app g k [13] [30, 11, 10, 12]).symm) ?_
  refine gq_aload_n (pc := 16) dX1_tells_16 rfl ?_
  refine gq_iload_n (pc := 17) dX1_tells_17 rfl ?_
  refine gq_iload_n (pc := 18) dX1_tells_18 rfl ?_
  refine gq_iload_n (pc := 19) dX1_tells_19 rfl ?_
  refine gq_rU3i (pc := 20) dX1_tells_20 cu_X1_26_2 sh_6 (c_X1_blinks_6 (g := p_adds g k [13, 30, 11, 10, 12]) (k := k + 5) (p_adds_1 hk [13, 30, 11, 10, 12]) (by omega)) ⟨by decide, by decide⟩ rfl rfl (Nat.le_of_ble_eq_true rfl) ?_
  refine gq_tog (g := ge_k (p_adds g k [13, 30, 11, 10, 12, 12]) 25 r x hb) (congrArg (fun q => ge_k q 25 r x hb) (p_adds_app g k [13, 30, 11, 10, 12] [12]).symm) ?_
  refine gq_ixor (pc := 23) dX1_tells_23 ?_
  exact gq_iret (pc := 24) rfl dX1_tells_24 ⟨rfl, rfl⟩
set_option maxHeartbeats 400000 in
theorem c_X1_sees_7 {n m a : Int32} {k : Nat} (hk : g 1 1 = nI k) (hk2 : k + 1 ≤ 40) : ge_N X ge_SH YX1_sees 1 [.ref (ge_ad X.1 7), .int n, .int m, .int a] (ge_k g 25 r x hb) (some (.int (a + n))) (ge_k (p_adds g k [10]) 25 r x hb) := by
  refine gq_ofB (l := [(0, .ref (ge_ad X.1 7)), (1, .int n), (2, .int m), (3, .int a)]) (by decide) (Nat.le_of_ble_eq_true rfl) rfl ?_
  refine gq_aload_n (pc := 0) dX1_sees_0 rfl ?_
  refine gq_getr (pc := 1) dX1_sees_1 fl_X1_7_3 sh_7 rfl ?_
  refine gq_bipush (pc := 4) dX1_sees_4 kb_10 ?_
  refine gq_rV1v (pc := 6) dX1_sees_6 cv_X1_13 sh_1 (r_add_1 hk (by omega)) ⟨by decide, by decide⟩ rfl rfl (Nat.le_of_ble_eq_true rfl) ?_
  refine gq_iload_n (pc := 9) dX1_sees_9 rfl ?_
  refine gq_iload_n (pc := 10) dX1_sees_10 rfl ?_
  refine gq_iadd (pc := 11) dX1_sees_11 ?_
  exact gq_iret (pc := 12) rfl dX1_sees_12 ⟨rfl, rfl⟩
set_option maxHeartbeats 400000 in
theorem c_X1_blinks_7 {n m a : Int32} {k : Nat} (hk : g 1 1 = nI k) (hk2 : k + 1 ≤ 40) : ge_N X ge_SH YX1_blinks 1 [.ref (ge_ad X.1 7), .int n, .int m, .int a] (ge_k g 25 r x hb) (some (.int (a - m))) (ge_k (p_adds g k [12]) 25 r x hb) := by
  refine gq_ofB (l := [(0, .ref (ge_ad X.1 7)), (1, .int n), (2, .int m), (3, .int a)]) (by decide) (Nat.le_of_ble_eq_true rfl) rfl ?_
  refine gq_aload_n (pc := 0) dX1_blinks_0 rfl ?_
  refine gq_getr (pc := 1) dX1_blinks_1 fl_X1_7_3 sh_7 rfl ?_
  refine gq_bipush (pc := 4) dX1_blinks_4 kb_12 ?_
  refine gq_rV1v (pc := 6) dX1_blinks_6 cv_X1_13 sh_1 (r_add_1 hk (by omega)) ⟨by decide, by decide⟩ rfl rfl (Nat.le_of_ble_eq_true rfl) ?_
  refine gq_iload_n (pc := 9) dX1_blinks_9 rfl ?_
  refine gq_iload_n (pc := 10) dX1_blinks_10 rfl ?_
  refine gq_isub (pc := 11) dX1_blinks_11 ?_
  exact gq_iret (pc := 12) rfl dX1_blinks_12 ⟨rfl, rfl⟩
set_option maxHeartbeats 400000 in
theorem c_X3_blinks_7 {n m a : Int32} {k : Nat} (hk : g 1 1 = nI k) (hk2 : k + 2 ≤ 40) : ge_N X ge_SH YX3_blinks 2 [.ref (ge_ad X.1 7), .int n, .int m, .int a] (ge_k g 25 r x hb) (some (.int (-(a - m)))) (ge_k (p_adds g k [40, 12]) 25 r x hb) := by
  refine gq_ofB (l := [(0, .ref (ge_ad X.1 7)), (1, .int n), (2, .int m), (3, .int a)]) (by decide) (Nat.le_of_ble_eq_true rfl) rfl ?_
  refine gq_aload_n (pc := 0) dX3_blinks_0 rfl ?_
  refine gq_getr (pc := 1) dX3_blinks_1 fl_X3_17_3 sh_7 rfl ?_
  refine gq_bipush (pc := 4) dX3_blinks_4 kb_40 ?_
  refine gq_rV1v (pc := 6) dX3_blinks_6 cv_X3_23 sh_1 (r_add_1 hk (by omega)) ⟨by decide, by decide⟩ rfl rfl (Nat.le_of_ble_eq_true rfl) ?_
  refine gq_aload_n (pc := 9) dX3_blinks_9 rfl ?_
  refine gq_iload_n (pc := 10) dX3_blinks_10 rfl ?_
  refine gq_iload_n (pc := 11) dX3_blinks_11 rfl ?_
  refine gq_iload_n (pc := 12) dX3_blinks_12 rfl ?_
  refine gq_rP3i (pc := 13) dX3_blinks_13 cp_X3_29 sh_7 (c_X1_blinks_7 (g := p_adds g k [40]) (k := k + 1) (p_adds_1 hk [40]) (by omega)) ⟨by decide, by decide⟩ rfl (Nat.le_of_ble_eq_true rfl) ?_
  refine gq_tog (g := ge_k (p_adds g k [40, 12]) 25 r x hb) (congrArg (fun q => ge_k q 25 r x hb) (p_adds_app g k [40] [12]).symm) ?_
  refine gq_ineg (pc := 16) dX3_blinks_16 ?_
  exact gq_iret (pc := 17) rfl dX3_blinks_17 ⟨rfl, rfl⟩
set_option maxHeartbeats 400000 in
theorem c_X1_looks_7 {n m a : Int32} {k : Nat} (hk : g 1 1 = nI k) (hk2 : k + 2 ≤ 40) : ge_N X ge_SH YX1_looks 3 [.ref (ge_ad X.1 7), .int n, .int m, .int a] (ge_k g 25 r x hb) (some (.int ((a + n) * 2))) (ge_k (p_adds g k [11, 10]) 25 r x hb) := by
  refine gq_ofB (l := [(0, .ref (ge_ad X.1 7)), (1, .int n), (2, .int m), (3, .int a)]) (by decide) (Nat.le_of_ble_eq_true rfl) rfl ?_
  refine gq_aload_n (pc := 0) dX1_looks_0 rfl ?_
  refine gq_getr (pc := 1) dX1_looks_1 fl_X1_7_3 sh_7 rfl ?_
  refine gq_bipush (pc := 4) dX1_looks_4 kb_11 ?_
  refine gq_rV1v (pc := 6) dX1_looks_6 cv_X1_13 sh_1 (r_add_1 hk (by omega)) ⟨by decide, by decide⟩ rfl rfl (Nat.le_of_ble_eq_true rfl) ?_
  refine gq_aload_n (pc := 9) dX1_looks_9 rfl ?_
  refine gq_iload_n (pc := 10) dX1_looks_10 rfl ?_
  refine gq_iload_n (pc := 11) dX1_looks_11 rfl ?_
  refine gq_iload_n (pc := 12) dX1_looks_12 rfl ?_
  refine gq_rU3i (pc := 13) dX1_looks_13 cu_X1_19_3 sh_7 (c_X1_sees_7 (g := p_adds g k [11]) (k := k + 1) (p_adds_1 hk [11]) (by omega)) ⟨by decide, by decide⟩ rfl rfl (Nat.le_of_ble_eq_true rfl) ?_
  refine gq_tog (g := ge_k (p_adds g k [11, 10]) 25 r x hb) (congrArg (fun q => ge_k q 25 r x hb) (p_adds_app g k [11] [10]).symm) ?_
  refine gq_iconst (pc := 16) dX1_looks_16 kc_2 ?_
  refine gq_imul (pc := 17) dX1_looks_17 ?_
  exact gq_iret (pc := 18) rfl dX1_looks_18 ⟨rfl, rfl⟩
set_option maxHeartbeats 400000 in
theorem c_X1_tells_7 {n m a : Int32} {k : Nat} (hk : g 1 1 = nI k) (hk2 : k + 5 ≤ 40) : ge_N X ge_SH YX1_tells 6 [.ref (ge_ad X.1 7), .int n, .int m, .int a] (ge_k g 25 r x hb) (some (.int (((a + n) * 2) ^^^ (-(a - m))))) (ge_k (p_adds g k [13, 11, 10, 40, 12]) 25 r x hb) := by
  refine gq_ofB (l := [(0, .ref (ge_ad X.1 7)), (1, .int n), (2, .int m), (3, .int a)]) (by decide) (Nat.le_of_ble_eq_true rfl) rfl ?_
  refine gq_aload_n (pc := 0) dX1_tells_0 rfl ?_
  refine gq_getr (pc := 1) dX1_tells_1 fl_X1_7_3 sh_7 rfl ?_
  refine gq_bipush (pc := 4) dX1_tells_4 kb_13 ?_
  refine gq_rV1v (pc := 6) dX1_tells_6 cv_X1_13 sh_1 (r_add_1 hk (by omega)) ⟨by decide, by decide⟩ rfl rfl (Nat.le_of_ble_eq_true rfl) ?_
  refine gq_aload_n (pc := 9) dX1_tells_9 rfl ?_
  refine gq_iload_n (pc := 10) dX1_tells_10 rfl ?_
  refine gq_iload_n (pc := 11) dX1_tells_11 rfl ?_
  refine gq_iload_n (pc := 12) dX1_tells_12 rfl ?_
  refine gq_rU3i (pc := 13) dX1_tells_13 cu_X1_23_3 sh_7 (c_X1_looks_7 (g := p_adds g k [13]) (k := k + 1) (p_adds_1 hk [13]) (by omega)) ⟨by decide, by decide⟩ rfl rfl (Nat.le_of_ble_eq_true rfl) ?_
  refine gq_tog (g := ge_k (p_adds g k [13, 11, 10]) 25 r x hb) (congrArg (fun q => ge_k q 25 r x hb) (p_adds_app g k [13] [11, 10]).symm) ?_
  refine gq_aload_n (pc := 16) dX1_tells_16 rfl ?_
  refine gq_iload_n (pc := 17) dX1_tells_17 rfl ?_
  refine gq_iload_n (pc := 18) dX1_tells_18 rfl ?_
  refine gq_iload_n (pc := 19) dX1_tells_19 rfl ?_
  refine gq_rU3i (pc := 20) dX1_tells_20 cu_X1_26_3 sh_7 (c_X3_blinks_7 (g := p_adds g k [13, 11, 10]) (k := k + 3) (p_adds_1 hk [13, 11, 10]) (by omega)) ⟨by decide, by decide⟩ rfl rfl (Nat.le_of_ble_eq_true rfl) ?_
  refine gq_tog (g := ge_k (p_adds g k [13, 11, 10, 40, 12]) 25 r x hb) (congrArg (fun q => ge_k q 25 r x hb) (p_adds_app g k [13, 11, 10] [40, 12]).symm) ?_
  refine gq_ixor (pc := 23) dX1_tells_23 ?_
  exact gq_iret (pc := 24) rfl dX1_tells_24 ⟨rfl, rfl⟩
set_option maxHeartbeats 400000 in
theorem c_X1_sees_8 {n m a : Int32} {k : Nat} (hk : g 1 1 = nI k) (hk2 : k + 1 ≤ 40) : ge_N X ge_SH YX1_sees 1 [.ref (ge_ad X.1 8), .int n, .int m, .int a] (ge_k g 25 r x hb) (some (.int (a + n))) (ge_k (p_adds g k [10]) 25 r x hb) := by
  refine gq_ofB (l := [(0, .ref (ge_ad X.1 8)), (1, .int n), (2, .int m), (3, .int a)]) (by decide) (Nat.le_of_ble_eq_true rfl) rfl ?_
  refine gq_aload_n (pc := 0) dX1_sees_0 rfl ?_
  refine gq_getr (pc := 1) dX1_sees_1 fl_X1_7_0 sh_8 rfl ?_
  refine gq_bipush (pc := 4) dX1_sees_4 kb_10 ?_
  refine gq_rV1v (pc := 6) dX1_sees_6 cv_X1_13 sh_1 (r_add_1 hk (by omega)) ⟨by decide, by decide⟩ rfl rfl (Nat.le_of_ble_eq_true rfl) ?_
  refine gq_iload_n (pc := 9) dX1_sees_9 rfl ?_
  refine gq_iload_n (pc := 10) dX1_sees_10 rfl ?_
  refine gq_iadd (pc := 11) dX1_sees_11 ?_
  exact gq_iret (pc := 12) rfl dX1_sees_12 ⟨rfl, rfl⟩
set_option maxHeartbeats 400000 in
theorem c_X6_sees_8 {n m a : Int32} {k : Nat} (hk : g 1 1 = nI k) (hk2 : k + 2 ≤ 40) : ge_N X ge_SH YX6_sees 2 [.ref (ge_ad X.1 8), .int n, .int m, .int a] (ge_k g 25 r x hb) (some (.int ((a + n) * 3))) (ge_k (p_adds g k [20, 10]) 25 r x hb) := by
  refine gq_ofB (l := [(0, .ref (ge_ad X.1 8)), (1, .int n), (2, .int m), (3, .int a)]) (by decide) (Nat.le_of_ble_eq_true rfl) rfl ?_
  refine gq_aload_n (pc := 0) dX6_sees_0 rfl ?_
  refine gq_getr (pc := 1) dX6_sees_1 fl_X6_17_0 sh_8 rfl ?_
  refine gq_bipush (pc := 4) dX6_sees_4 kb_20 ?_
  refine gq_rV1v (pc := 6) dX6_sees_6 cv_X6_23 sh_1 (r_add_1 hk (by omega)) ⟨by decide, by decide⟩ rfl rfl (Nat.le_of_ble_eq_true rfl) ?_
  refine gq_aload_n (pc := 9) dX6_sees_9 rfl ?_
  refine gq_iload_n (pc := 10) dX6_sees_10 rfl ?_
  refine gq_iload_n (pc := 11) dX6_sees_11 rfl ?_
  refine gq_iload_n (pc := 12) dX6_sees_12 rfl ?_
  refine gq_rP3i (pc := 13) dX6_sees_13 cp_X6_29 sh_8 (c_X1_sees_8 (g := p_adds g k [20]) (k := k + 1) (p_adds_1 hk [20]) (by omega)) ⟨by decide, by decide⟩ rfl (Nat.le_of_ble_eq_true rfl) ?_
  refine gq_tog (g := ge_k (p_adds g k [20, 10]) 25 r x hb) (congrArg (fun q => ge_k q 25 r x hb) (p_adds_app g k [20] [10]).symm) ?_
  refine gq_iconst (pc := 16) dX6_sees_16 kc_3 ?_
  refine gq_imul (pc := 17) dX6_sees_17 ?_
  exact gq_iret (pc := 18) rfl dX6_sees_18 ⟨rfl, rfl⟩
set_option maxHeartbeats 400000 in
theorem c_X1_blinks_8 {n m a : Int32} {k : Nat} (hk : g 1 1 = nI k) (hk2 : k + 1 ≤ 40) : ge_N X ge_SH YX1_blinks 1 [.ref (ge_ad X.1 8), .int n, .int m, .int a] (ge_k g 25 r x hb) (some (.int (a - m))) (ge_k (p_adds g k [12]) 25 r x hb) := by
  refine gq_ofB (l := [(0, .ref (ge_ad X.1 8)), (1, .int n), (2, .int m), (3, .int a)]) (by decide) (Nat.le_of_ble_eq_true rfl) rfl ?_
  refine gq_aload_n (pc := 0) dX1_blinks_0 rfl ?_
  refine gq_getr (pc := 1) dX1_blinks_1 fl_X1_7_0 sh_8 rfl ?_
  refine gq_bipush (pc := 4) dX1_blinks_4 kb_12 ?_
  refine gq_rV1v (pc := 6) dX1_blinks_6 cv_X1_13 sh_1 (r_add_1 hk (by omega)) ⟨by decide, by decide⟩ rfl rfl (Nat.le_of_ble_eq_true rfl) ?_
  refine gq_iload_n (pc := 9) dX1_blinks_9 rfl ?_
  refine gq_iload_n (pc := 10) dX1_blinks_10 rfl ?_
  refine gq_isub (pc := 11) dX1_blinks_11 ?_
  exact gq_iret (pc := 12) rfl dX1_blinks_12 ⟨rfl, rfl⟩
set_option maxHeartbeats 400000 in
theorem c_X1_looks_8 {n m a : Int32} {k : Nat} (hk : g 1 1 = nI k) (hk2 : k + 3 ≤ 40) : ge_N X ge_SH YX1_looks 3 [.ref (ge_ad X.1 8), .int n, .int m, .int a] (ge_k g 25 r x hb) (some (.int (((a + n) * 3) * 2))) (ge_k (p_adds g k [11, 20, 10]) 25 r x hb) := by
  refine gq_ofB (l := [(0, .ref (ge_ad X.1 8)), (1, .int n), (2, .int m), (3, .int a)]) (by decide) (Nat.le_of_ble_eq_true rfl) rfl ?_
  refine gq_aload_n (pc := 0) dX1_looks_0 rfl ?_
  refine gq_getr (pc := 1) dX1_looks_1 fl_X1_7_0 sh_8 rfl ?_
  refine gq_bipush (pc := 4) dX1_looks_4 kb_11 ?_
  refine gq_rV1v (pc := 6) dX1_looks_6 cv_X1_13 sh_1 (r_add_1 hk (by omega)) ⟨by decide, by decide⟩ rfl rfl (Nat.le_of_ble_eq_true rfl) ?_
  refine gq_aload_n (pc := 9) dX1_looks_9 rfl ?_
  refine gq_iload_n (pc := 10) dX1_looks_10 rfl ?_
  refine gq_iload_n (pc := 11) dX1_looks_11 rfl ?_
  refine gq_iload_n (pc := 12) dX1_looks_12 rfl ?_
  refine gq_rU3i (pc := 13) dX1_looks_13 cu_X1_19_0 sh_8 (c_X6_sees_8 (g := p_adds g k [11]) (k := k + 1) (p_adds_1 hk [11]) (by omega)) ⟨by decide, by decide⟩ rfl rfl (Nat.le_of_ble_eq_true rfl) ?_
  refine gq_tog (g := ge_k (p_adds g k [11, 20, 10]) 25 r x hb) (congrArg (fun q => ge_k q 25 r x hb) (p_adds_app g k [11] [20, 10]).symm) ?_
  refine gq_iconst (pc := 16) dX1_looks_16 kc_2 ?_
  refine gq_imul (pc := 17) dX1_looks_17 ?_
  exact gq_iret (pc := 18) rfl dX1_looks_18 ⟨rfl, rfl⟩
set_option maxHeartbeats 400000 in
theorem c_X1_tells_8 {n m a : Int32} {k : Nat} (hk : g 1 1 = nI k) (hk2 : k + 5 ≤ 40) : ge_N X ge_SH YX1_tells 6 [.ref (ge_ad X.1 8), .int n, .int m, .int a] (ge_k g 25 r x hb) (some (.int ((((a + n) * 3) * 2) ^^^ (a - m)))) (ge_k (p_adds g k [13, 11, 20, 10, 12]) 25 r x hb) := by
  refine gq_ofB (l := [(0, .ref (ge_ad X.1 8)), (1, .int n), (2, .int m), (3, .int a)]) (by decide) (Nat.le_of_ble_eq_true rfl) rfl ?_
  refine gq_aload_n (pc := 0) dX1_tells_0 rfl ?_
  refine gq_getr (pc := 1) dX1_tells_1 fl_X1_7_0 sh_8 rfl ?_
  refine gq_bipush (pc := 4) dX1_tells_4 kb_13 ?_
  refine gq_rV1v (pc := 6) dX1_tells_6 cv_X1_13 sh_1 (r_add_1 hk (by omega)) ⟨by decide, by decide⟩ rfl rfl (Nat.le_of_ble_eq_true rfl) ?_
  refine gq_aload_n (pc := 9) dX1_tells_9 rfl ?_
  refine gq_iload_n (pc := 10) dX1_tells_10 rfl ?_
  refine gq_iload_n (pc := 11) dX1_tells_11 rfl ?_
  refine gq_iload_n (pc := 12) dX1_tells_12 rfl ?_
  refine gq_rU3i (pc := 13) dX1_tells_13 cu_X1_23_0 sh_8 (c_X1_looks_8 (g := p_adds g k [13]) (k := k + 1) (p_adds_1 hk [13]) (by omega)) ⟨by decide, by decide⟩ rfl rfl (Nat.le_of_ble_eq_true rfl) ?_
  refine gq_tog (g := ge_k (p_adds g k [13, 11, 20, 10]) 25 r x hb) (congrArg (fun q => ge_k q 25 r x hb) (p_adds_app g k [13] [11, 20, 10]).symm) ?_
  refine gq_aload_n (pc := 16) dX1_tells_16 rfl ?_
  refine gq_iload_n (pc := 17) dX1_tells_17 rfl ?_
  refine gq_iload_n (pc := 18) dX1_tells_18 rfl ?_
  refine gq_iload_n (pc := 19) dX1_tells_19 rfl ?_
  refine gq_rU3i (pc := 20) dX1_tells_20 cu_X1_26_0 sh_8 (c_X1_blinks_8 (g := p_adds g k [13, 11, 20, 10]) (k := k + 4) (p_adds_1 hk [13, 11, 20, 10]) (by omega)) ⟨by decide, by decide⟩ rfl rfl (Nat.le_of_ble_eq_true rfl) ?_
  refine gq_tog (g := ge_k (p_adds g k [13, 11, 20, 10, 12]) 25 r x hb) (congrArg (fun q => ge_k q 25 r x hb) (p_adds_app g k [13, 11, 20, 10] [12]).symm) ?_
  refine gq_ixor (pc := 23) dX1_tells_23 ?_
  exact gq_iret (pc := 24) rfl dX1_tells_24 ⟨rfl, rfl⟩
set_option maxHeartbeats 400000 in
theorem c_X0_tells_8 {n m a : Int32} {k : Nat} (hk : g 1 1 = nI k) (hk2 : k + 8 ≤ 40) : ge_N X ge_SH YX0_tells 7 [.ref (ge_ad X.1 8), .int n, .int m, .int a] (ge_k g 25 r x hb) (some (.int (((((a + n) * 3) * 2) ^^^ (a - m)) - ((2 + n) * 3)))) (ge_k (p_adds g k [50, 13, 11, 20, 10, 12, 20, 10]) 25 r x hb) := by
  refine gq_ofB (l := [(0, .ref (ge_ad X.1 8)), (1, .int n), (2, .int m), (3, .int a)]) (by decide) (Nat.le_of_ble_eq_true rfl) rfl ?_
  refine gq_aload_n (pc := 0) dX0_tells_0 rfl ?_
  refine gq_getr (pc := 1) dX0_tells_1 fl_X0_21_0 sh_8 rfl ?_
  refine gq_bipush (pc := 4) dX0_tells_4 kb_50 ?_
  refine gq_rV1v (pc := 6) dX0_tells_6 cv_X0_27 sh_1 (r_add_1 hk (by omega)) ⟨by decide, by decide⟩ rfl rfl (Nat.le_of_ble_eq_true rfl) ?_
  refine gq_aload_n (pc := 9) dX0_tells_9 rfl ?_
  refine gq_iload_n (pc := 10) dX0_tells_10 rfl ?_
  refine gq_iload_n (pc := 11) dX0_tells_11 rfl ?_
  refine gq_iload_n (pc := 12) dX0_tells_12 rfl ?_
  refine gq_rQ3i (pc := 13) dX0_tells_13 cq_X0_33 sh_8 (c_X1_tells_8 (g := p_adds g k [50]) (k := k + 1) (p_adds_1 hk [50]) (by omega)) ⟨by decide, by decide⟩ rfl (Nat.le_of_ble_eq_true rfl) ?_
  refine gq_tog (g := ge_k (p_adds g k [50, 13, 11, 20, 10, 12]) 25 r x hb) (congrArg (fun q => ge_k q 25 r x hb) (p_adds_app g k [50] [13, 11, 20, 10, 12]).symm) ?_
  refine gq_aload_n (pc := 16) dX0_tells_16 rfl ?_
  refine gq_iload_n (pc := 17) dX0_tells_17 rfl ?_
  refine gq_iload_n (pc := 18) dX0_tells_18 rfl ?_
  refine gq_iconst (pc := 19) dX0_tells_19 kc_2 ?_
  refine gq_rU3i (pc := 20) dX0_tells_20 cu_X0_37_0 sh_8 (c_X6_sees_8 (g := p_adds g k [50, 13, 11, 20, 10, 12]) (k := k + 6) (p_adds_1 hk [50, 13, 11, 20, 10, 12]) (by omega)) ⟨by decide, by decide⟩ rfl rfl (Nat.le_of_ble_eq_true rfl) ?_
  refine gq_tog (g := ge_k (p_adds g k [50, 13, 11, 20, 10, 12, 20, 10]) 25 r x hb) (congrArg (fun q => ge_k q 25 r x hb) (p_adds_app g k [50, 13, 11, 20, 10, 12] [20, 10]).symm) ?_
  refine gq_isub (pc := 23) dX0_tells_23 ?_
  exact gq_iret (pc := 24) rfl dX0_tells_24 ⟨rfl, rfl⟩
set_option maxHeartbeats 400000 in
theorem c_X1_sees_9 {n m a : Int32} {k : Nat} (hk : g 1 1 = nI k) (hk2 : k + 1 ≤ 40) : ge_N X ge_SH YX1_sees 1 [.ref (ge_ad X.1 9), .int n, .int m, .int a] (ge_k g 25 r x hb) (some (.int (a + n))) (ge_k (p_adds g k [10]) 25 r x hb) := by
  refine gq_ofB (l := [(0, .ref (ge_ad X.1 9)), (1, .int n), (2, .int m), (3, .int a)]) (by decide) (Nat.le_of_ble_eq_true rfl) rfl ?_
  refine gq_aload_n (pc := 0) dX1_sees_0 rfl ?_
  refine gq_getr (pc := 1) dX1_sees_1 fl_X1_7_8 sh_9 rfl ?_
  refine gq_bipush (pc := 4) dX1_sees_4 kb_10 ?_
  refine gq_rV1v (pc := 6) dX1_sees_6 cv_X1_13 sh_1 (r_add_1 hk (by omega)) ⟨by decide, by decide⟩ rfl rfl (Nat.le_of_ble_eq_true rfl) ?_
  refine gq_iload_n (pc := 9) dX1_sees_9 rfl ?_
  refine gq_iload_n (pc := 10) dX1_sees_10 rfl ?_
  refine gq_iadd (pc := 11) dX1_sees_11 ?_
  exact gq_iret (pc := 12) rfl dX1_sees_12 ⟨rfl, rfl⟩
set_option maxHeartbeats 400000 in
theorem c_X1_blinks_9 {n m a : Int32} {k : Nat} (hk : g 1 1 = nI k) (hk2 : k + 1 ≤ 40) : ge_N X ge_SH YX1_blinks 1 [.ref (ge_ad X.1 9), .int n, .int m, .int a] (ge_k g 25 r x hb) (some (.int (a - m))) (ge_k (p_adds g k [12]) 25 r x hb) := by
  refine gq_ofB (l := [(0, .ref (ge_ad X.1 9)), (1, .int n), (2, .int m), (3, .int a)]) (by decide) (Nat.le_of_ble_eq_true rfl) rfl ?_
  refine gq_aload_n (pc := 0) dX1_blinks_0 rfl ?_
  refine gq_getr (pc := 1) dX1_blinks_1 fl_X1_7_8 sh_9 rfl ?_
  refine gq_bipush (pc := 4) dX1_blinks_4 kb_12 ?_
  refine gq_rV1v (pc := 6) dX1_blinks_6 cv_X1_13 sh_1 (r_add_1 hk (by omega)) ⟨by decide, by decide⟩ rfl rfl (Nat.le_of_ble_eq_true rfl) ?_
  refine gq_iload_n (pc := 9) dX1_blinks_9 rfl ?_
  refine gq_iload_n (pc := 10) dX1_blinks_10 rfl ?_
  refine gq_isub (pc := 11) dX1_blinks_11 ?_
  exact gq_iret (pc := 12) rfl dX1_blinks_12 ⟨rfl, rfl⟩
set_option maxHeartbeats 400000 in
theorem c_X1_looks_9 {n m a : Int32} {k : Nat} (hk : g 1 1 = nI k) (hk2 : k + 2 ≤ 40) : ge_N X ge_SH YX1_looks 3 [.ref (ge_ad X.1 9), .int n, .int m, .int a] (ge_k g 25 r x hb) (some (.int ((a + n) * 2))) (ge_k (p_adds g k [11, 10]) 25 r x hb) := by
  refine gq_ofB (l := [(0, .ref (ge_ad X.1 9)), (1, .int n), (2, .int m), (3, .int a)]) (by decide) (Nat.le_of_ble_eq_true rfl) rfl ?_
  refine gq_aload_n (pc := 0) dX1_looks_0 rfl ?_
  refine gq_getr (pc := 1) dX1_looks_1 fl_X1_7_8 sh_9 rfl ?_
  refine gq_bipush (pc := 4) dX1_looks_4 kb_11 ?_
  refine gq_rV1v (pc := 6) dX1_looks_6 cv_X1_13 sh_1 (r_add_1 hk (by omega)) ⟨by decide, by decide⟩ rfl rfl (Nat.le_of_ble_eq_true rfl) ?_
  refine gq_aload_n (pc := 9) dX1_looks_9 rfl ?_
  refine gq_iload_n (pc := 10) dX1_looks_10 rfl ?_
  refine gq_iload_n (pc := 11) dX1_looks_11 rfl ?_
  refine gq_iload_n (pc := 12) dX1_looks_12 rfl ?_
  refine gq_rU3i (pc := 13) dX1_looks_13 cu_X1_19_8 sh_9 (c_X1_sees_9 (g := p_adds g k [11]) (k := k + 1) (p_adds_1 hk [11]) (by omega)) ⟨by decide, by decide⟩ rfl rfl (Nat.le_of_ble_eq_true rfl) ?_
  refine gq_tog (g := ge_k (p_adds g k [11, 10]) 25 r x hb) (congrArg (fun q => ge_k q 25 r x hb) (p_adds_app g k [11] [10]).symm) ?_
  refine gq_iconst (pc := 16) dX1_looks_16 kc_2 ?_
  refine gq_imul (pc := 17) dX1_looks_17 ?_
  exact gq_iret (pc := 18) rfl dX1_looks_18 ⟨rfl, rfl⟩
set_option maxHeartbeats 400000 in
theorem c_X2_looks_9 {n m a : Int32} {k : Nat} (hk : g 1 1 = nI k) (hk2 : k + 4 ≤ 40) : ge_N X ge_SH YX2_looks 4 [.ref (ge_ad X.1 9), .int n, .int m, .int a] (ge_k g 25 r x hb) (some (.int (((a + n) * 2) - (1 - m)))) (ge_k (p_adds g k [30, 11, 10, 12]) 25 r x hb) := by
  refine gq_ofB (l := [(0, .ref (ge_ad X.1 9)), (1, .int n), (2, .int m), (3, .int a)]) (by decide) (Nat.le_of_ble_eq_true rfl) rfl ?_
  refine gq_aload_n (pc := 0) dX2_looks_0 rfl ?_
  refine gq_getr (pc := 1) dX2_looks_1 fl_X2_11_8 sh_9 rfl ?_
  refine gq_bipush (pc := 4) dX2_looks_4 kb_30 ?_
  refine gq_rV1v (pc := 6) dX2_looks_6 cv_X2_17 sh_1 (r_add_1 hk (by omega)) ⟨by decide, by decide⟩ rfl rfl (Nat.le_of_ble_eq_true rfl) ?_
  refine gq_aload_n (pc := 9) dX2_looks_9 rfl ?_
  refine gq_iload_n (pc := 10) dX2_looks_10 rfl ?_
  refine gq_iload_n (pc := 11) dX2_looks_11 rfl ?_
  refine gq_iload_n (pc := 12) dX2_looks_12 rfl ?_
  refine gq_rP3i (pc := 13) dX2_looks_13 cp_X2_23 sh_9 (c_X1_looks_9 (g := p_adds g k [30]) (k := k + 1) (p_adds_1 hk [30]) (by omega)) ⟨by decide, by decide⟩ rfl (Nat.le_of_ble_eq_true rfl) ?_
  refine gq_tog (g := ge_k (p_adds g k [30, 11, 10]) 25 r x hb) (congrArg (fun q => ge_k q 25 r x hb) (p_adds_app g k [30] [11, 10]).symm) ?_
  refine gq_aload_n (pc := 16) dX2_looks_16 rfl ?_
  refine gq_iload_n (pc := 17) dX2_looks_17 rfl ?_
  refine gq_iload_n (pc := 18) dX2_looks_18 rfl ?_
  refine gq_iconst (pc := 19) dX2_looks_19 kc_1 ?_
  refine gq_rU3i (pc := 20) dX2_looks_20 cu_X2_27_8 sh_9 (c_X1_blinks_9 (g := p_adds g k [30, 11, 10]) (k := k + 3) (p_adds_1 hk [30, 11, 10]) (by omega)) ⟨by decide, by decide⟩ rfl rfl (Nat.le_of_ble_eq_true rfl) ?_
  refine gq_tog (g := ge_k (p_adds g k [30, 11, 10, 12]) 25 r x hb) (congrArg (fun q => ge_k q 25 r x hb) (p_adds_app g k [30, 11, 10] [12]).symm) ?_
  refine gq_isub (pc := 23) dX2_looks_23 ?_
  exact gq_iret (pc := 24) rfl dX2_looks_24 ⟨rfl, rfl⟩
set_option maxHeartbeats 400000 in
theorem c_X8_looks_9 {n m a : Int32} {k : Nat} (hk : g 1 1 = nI k) (hk2 : k + 5 ≤ 40) : ge_N X ge_SH YX8_looks 5 [.ref (ge_ad X.1 9), .int n, .int m, .int a] (ge_k g 25 r x hb) (some (.int ((((a + 1) + n) * 2) - (1 - m)))) (ge_k (p_adds g k [60, 30, 11, 10, 12]) 25 r x hb) := by
  refine gq_ofB (l := [(0, .ref (ge_ad X.1 9)), (1, .int n), (2, .int m), (3, .int a)]) (by decide) (Nat.le_of_ble_eq_true rfl) rfl ?_
  refine gq_aload_n (pc := 0) dX8_looks_0 rfl ?_
  refine gq_getr (pc := 1) dX8_looks_1 fl_X8_29_8 sh_9 rfl ?_
  refine gq_bipush (pc := 4) dX8_looks_4 kb_60 ?_
  refine gq_rV1v (pc := 6) dX8_looks_6 cv_X8_35 sh_1 (r_add_1 hk (by omega)) ⟨by decide, by decide⟩ rfl rfl (Nat.le_of_ble_eq_true rfl) ?_
  refine gq_aload_n (pc := 9) dX8_looks_9 rfl ?_
  refine gq_iload_n (pc := 10) dX8_looks_10 rfl ?_
  refine gq_iload_n (pc := 11) dX8_looks_11 rfl ?_
  refine gq_iload_n (pc := 12) dX8_looks_12 rfl ?_
  refine gq_iconst (pc := 13) dX8_looks_13 kc_1 ?_
  refine gq_iadd (pc := 14) dX8_looks_14 ?_
  refine gq_rP3i (pc := 15) dX8_looks_15 cp_X8_41 sh_9 (c_X2_looks_9 (g := p_adds g k [60]) (k := k + 1) (p_adds_1 hk [60]) (by omega)) ⟨by decide, by decide⟩ rfl (Nat.le_of_ble_eq_true rfl) ?_
  refine gq_tog (g := ge_k (p_adds g k [60, 30, 11, 10, 12]) 25 r x hb) (congrArg (fun q => ge_k q 25 r x hb) (p_adds_app g k [60] [30, 11, 10, 12]).symm) ?_
  exact gq_iret (pc := 18) rfl dX8_looks_18 ⟨rfl, rfl⟩
set_option maxHeartbeats 400000 in
theorem c_X1_tells_9 {n m a : Int32} {k : Nat} (hk : g 1 1 = nI k) (hk2 : k + 7 ≤ 40) : ge_N X ge_SH YX1_tells 6 [.ref (ge_ad X.1 9), .int n, .int m, .int a] (ge_k g 25 r x hb) (some (.int (((((a + 1) + n) * 2) - (1 - m)) ^^^ (a - m)))) (ge_k (p_adds g k [13, 60, 30, 11, 10, 12, 12]) 25 r x hb) := by
  refine gq_ofB (l := [(0, .ref (ge_ad X.1 9)), (1, .int n), (2, .int m), (3, .int a)]) (by decide) (Nat.le_of_ble_eq_true rfl) rfl ?_
  refine gq_aload_n (pc := 0) dX1_tells_0 rfl ?_
  refine gq_getr (pc := 1) dX1_tells_1 fl_X1_7_8 sh_9 rfl ?_
  refine gq_bipush (pc := 4) dX1_tells_4 kb_13 ?_
  refine gq_rV1v (pc := 6) dX1_tells_6 cv_X1_13 sh_1 (r_add_1 hk (by omega)) ⟨by decide, by decide⟩ rfl rfl (Nat.le_of_ble_eq_true rfl) ?_
  refine gq_aload_n (pc := 9) dX1_tells_9 rfl ?_
  refine gq_iload_n (pc := 10) dX1_tells_10 rfl ?_
  refine gq_iload_n (pc := 11) dX1_tells_11 rfl ?_
  refine gq_iload_n (pc := 12) dX1_tells_12 rfl ?_
  refine gq_rU3i (pc := 13) dX1_tells_13 cu_X1_23_8 sh_9 (c_X8_looks_9 (g := p_adds g k [13]) (k := k + 1) (p_adds_1 hk [13]) (by omega)) ⟨by decide, by decide⟩ rfl rfl (Nat.le_of_ble_eq_true rfl) ?_
  refine gq_tog (g := ge_k (p_adds g k [13, 60, 30, 11, 10, 12]) 25 r x hb) (congrArg (fun q => ge_k q 25 r x hb) (p_adds_app g k [13] [60, 30, 11, 10, 12]).symm) ?_
  refine gq_aload_n (pc := 16) dX1_tells_16 rfl ?_
  refine gq_iload_n (pc := 17) dX1_tells_17 rfl ?_
  refine gq_iload_n (pc := 18) dX1_tells_18 rfl ?_
  refine gq_iload_n (pc := 19) dX1_tells_19 rfl ?_
  refine gq_rU3i (pc := 20) dX1_tells_20 cu_X1_26_8 sh_9 (c_X1_blinks_9 (g := p_adds g k [13, 60, 30, 11, 10, 12]) (k := k + 6) (p_adds_1 hk [13, 60, 30, 11, 10, 12]) (by omega)) ⟨by decide, by decide⟩ rfl rfl (Nat.le_of_ble_eq_true rfl) ?_
  refine gq_tog (g := ge_k (p_adds g k [13, 60, 30, 11, 10, 12, 12]) 25 r x hb) (congrArg (fun q => ge_k q 25 r x hb) (p_adds_app g k [13, 60, 30, 11, 10, 12] [12]).symm) ?_
  refine gq_ixor (pc := 23) dX1_tells_23 ?_
  exact gq_iret (pc := 24) rfl dX1_tells_24 ⟨rfl, rfl⟩
set_option maxHeartbeats 400000 in
theorem c_X1_sees_10 {n m a : Int32} {k : Nat} (hk : g 1 1 = nI k) (hk2 : k + 1 ≤ 40) : ge_N X ge_SH YX1_sees 1 [.ref (ge_ad X.1 10), .int n, .int m, .int a] (ge_k g 25 r x hb) (some (.int (a + n))) (ge_k (p_adds g k [10]) 25 r x hb) := by
  refine gq_ofB (l := [(0, .ref (ge_ad X.1 10)), (1, .int n), (2, .int m), (3, .int a)]) (by decide) (Nat.le_of_ble_eq_true rfl) rfl ?_
  refine gq_aload_n (pc := 0) dX1_sees_0 rfl ?_
  refine gq_getr (pc := 1) dX1_sees_1 fl_X1_7_5 sh_10 rfl ?_
  refine gq_bipush (pc := 4) dX1_sees_4 kb_10 ?_
  refine gq_rV1v (pc := 6) dX1_sees_6 cv_X1_13 sh_1 (r_add_1 hk (by omega)) ⟨by decide, by decide⟩ rfl rfl (Nat.le_of_ble_eq_true rfl) ?_
  refine gq_iload_n (pc := 9) dX1_sees_9 rfl ?_
  refine gq_iload_n (pc := 10) dX1_sees_10 rfl ?_
  refine gq_iadd (pc := 11) dX1_sees_11 ?_
  exact gq_iret (pc := 12) rfl dX1_sees_12 ⟨rfl, rfl⟩
set_option maxHeartbeats 400000 in
theorem c_X1_blinks_10 {n m a : Int32} {k : Nat} (hk : g 1 1 = nI k) (hk2 : k + 1 ≤ 40) : ge_N X ge_SH YX1_blinks 1 [.ref (ge_ad X.1 10), .int n, .int m, .int a] (ge_k g 25 r x hb) (some (.int (a - m))) (ge_k (p_adds g k [12]) 25 r x hb) := by
  refine gq_ofB (l := [(0, .ref (ge_ad X.1 10)), (1, .int n), (2, .int m), (3, .int a)]) (by decide) (Nat.le_of_ble_eq_true rfl) rfl ?_
  refine gq_aload_n (pc := 0) dX1_blinks_0 rfl ?_
  refine gq_getr (pc := 1) dX1_blinks_1 fl_X1_7_5 sh_10 rfl ?_
  refine gq_bipush (pc := 4) dX1_blinks_4 kb_12 ?_
  refine gq_rV1v (pc := 6) dX1_blinks_6 cv_X1_13 sh_1 (r_add_1 hk (by omega)) ⟨by decide, by decide⟩ rfl rfl (Nat.le_of_ble_eq_true rfl) ?_
  refine gq_iload_n (pc := 9) dX1_blinks_9 rfl ?_
  refine gq_iload_n (pc := 10) dX1_blinks_10 rfl ?_
  refine gq_isub (pc := 11) dX1_blinks_11 ?_
  exact gq_iret (pc := 12) rfl dX1_blinks_12 ⟨rfl, rfl⟩
set_option maxHeartbeats 400000 in
theorem c_X3_blinks_10 {n m a : Int32} {k : Nat} (hk : g 1 1 = nI k) (hk2 : k + 2 ≤ 40) : ge_N X ge_SH YX3_blinks 2 [.ref (ge_ad X.1 10), .int n, .int m, .int a] (ge_k g 25 r x hb) (some (.int (-(a - m)))) (ge_k (p_adds g k [40, 12]) 25 r x hb) := by
  refine gq_ofB (l := [(0, .ref (ge_ad X.1 10)), (1, .int n), (2, .int m), (3, .int a)]) (by decide) (Nat.le_of_ble_eq_true rfl) rfl ?_
  refine gq_aload_n (pc := 0) dX3_blinks_0 rfl ?_
  refine gq_getr (pc := 1) dX3_blinks_1 fl_X3_17_5 sh_10 rfl ?_
  refine gq_bipush (pc := 4) dX3_blinks_4 kb_40 ?_
  refine gq_rV1v (pc := 6) dX3_blinks_6 cv_X3_23 sh_1 (r_add_1 hk (by omega)) ⟨by decide, by decide⟩ rfl rfl (Nat.le_of_ble_eq_true rfl) ?_
  refine gq_aload_n (pc := 9) dX3_blinks_9 rfl ?_
  refine gq_iload_n (pc := 10) dX3_blinks_10 rfl ?_
  refine gq_iload_n (pc := 11) dX3_blinks_11 rfl ?_
  refine gq_iload_n (pc := 12) dX3_blinks_12 rfl ?_
  refine gq_rP3i (pc := 13) dX3_blinks_13 cp_X3_29 sh_10 (c_X1_blinks_10 (g := p_adds g k [40]) (k := k + 1) (p_adds_1 hk [40]) (by omega)) ⟨by decide, by decide⟩ rfl (Nat.le_of_ble_eq_true rfl) ?_
  refine gq_tog (g := ge_k (p_adds g k [40, 12]) 25 r x hb) (congrArg (fun q => ge_k q 25 r x hb) (p_adds_app g k [40] [12]).symm) ?_
  refine gq_ineg (pc := 16) dX3_blinks_16 ?_
  exact gq_iret (pc := 17) rfl dX3_blinks_17 ⟨rfl, rfl⟩
set_option maxHeartbeats 400000 in
theorem c_X5_blinks_10 {n m a : Int32} {k : Nat} (hk : g 1 1 = nI k) (hk2 : k + 3 ≤ 40) : ge_N X ge_SH YX5_blinks 3 [.ref (ge_ad X.1 10), .int n, .int m, .int a] (ge_k g 25 r x hb) (some (.int ((-(a - m)) ^^^ n))) (ge_k (p_adds g k [70, 40, 12]) 25 r x hb) := by
  refine gq_ofB (l := [(0, .ref (ge_ad X.1 10)), (1, .int n), (2, .int m), (3, .int a)]) (by decide) (Nat.le_of_ble_eq_true rfl) rfl ?_
  refine gq_aload_n (pc := 0) dX5_blinks_0 rfl ?_
  refine gq_getr (pc := 1) dX5_blinks_1 fl_X5_21_5 sh_10 rfl ?_
  refine gq_bipush (pc := 4) dX5_blinks_4 kb_70 ?_
  refine gq_rV1v (pc := 6) dX5_blinks_6 cv_X5_27 sh_1 (r_add_1 hk (by omega)) ⟨by decide, by decide⟩ rfl rfl (Nat.le_of_ble_eq_true rfl) ?_
  refine gq_aload_n (pc := 9) dX5_blinks_9 rfl ?_
  refine gq_iload_n (pc := 10) dX5_blinks_10 rfl ?_
  refine gq_iload_n (pc := 11) dX5_blinks_11 rfl ?_
  refine gq_iload_n (pc := 12) dX5_blinks_12 rfl ?_
  refine gq_rP3i (pc := 13) dX5_blinks_13 cp_X5_33 sh_10 (c_X3_blinks_10 (g := p_adds g k [70]) (k := k + 1) (p_adds_1 hk [70]) (by omega)) ⟨by decide, by decide⟩ rfl (Nat.le_of_ble_eq_true rfl) ?_
  refine gq_tog (g := ge_k (p_adds g k [70, 40, 12]) 25 r x hb) (congrArg (fun q => ge_k q 25 r x hb) (p_adds_app g k [70] [40, 12]).symm) ?_
  refine gq_iload_n (pc := 16) dX5_blinks_16 rfl ?_
  refine gq_ixor (pc := 17) dX5_blinks_17 ?_
  exact gq_iret (pc := 18) rfl dX5_blinks_18 ⟨rfl, rfl⟩
set_option maxHeartbeats 400000 in
theorem c_X1_looks_10 {n m a : Int32} {k : Nat} (hk : g 1 1 = nI k) (hk2 : k + 2 ≤ 40) : ge_N X ge_SH YX1_looks 3 [.ref (ge_ad X.1 10), .int n, .int m, .int a] (ge_k g 25 r x hb) (some (.int ((a + n) * 2))) (ge_k (p_adds g k [11, 10]) 25 r x hb) := by
  refine gq_ofB (l := [(0, .ref (ge_ad X.1 10)), (1, .int n), (2, .int m), (3, .int a)]) (by decide) (Nat.le_of_ble_eq_true rfl) rfl ?_
  refine gq_aload_n (pc := 0) dX1_looks_0 rfl ?_
  refine gq_getr (pc := 1) dX1_looks_1 fl_X1_7_5 sh_10 rfl ?_
  refine gq_bipush (pc := 4) dX1_looks_4 kb_11 ?_
  refine gq_rV1v (pc := 6) dX1_looks_6 cv_X1_13 sh_1 (r_add_1 hk (by omega)) ⟨by decide, by decide⟩ rfl rfl (Nat.le_of_ble_eq_true rfl) ?_
  refine gq_aload_n (pc := 9) dX1_looks_9 rfl ?_
  refine gq_iload_n (pc := 10) dX1_looks_10 rfl ?_
  refine gq_iload_n (pc := 11) dX1_looks_11 rfl ?_
  refine gq_iload_n (pc := 12) dX1_looks_12 rfl ?_
  refine gq_rU3i (pc := 13) dX1_looks_13 cu_X1_19_5 sh_10 (c_X1_sees_10 (g := p_adds g k [11]) (k := k + 1) (p_adds_1 hk [11]) (by omega)) ⟨by decide, by decide⟩ rfl rfl (Nat.le_of_ble_eq_true rfl) ?_
  refine gq_tog (g := ge_k (p_adds g k [11, 10]) 25 r x hb) (congrArg (fun q => ge_k q 25 r x hb) (p_adds_app g k [11] [10]).symm) ?_
  refine gq_iconst (pc := 16) dX1_looks_16 kc_2 ?_
  refine gq_imul (pc := 17) dX1_looks_17 ?_
  exact gq_iret (pc := 18) rfl dX1_looks_18 ⟨rfl, rfl⟩
set_option maxHeartbeats 400000 in
theorem c_X1_tells_10 {n m a : Int32} {k : Nat} (hk : g 1 1 = nI k) (hk2 : k + 6 ≤ 40) : ge_N X ge_SH YX1_tells 6 [.ref (ge_ad X.1 10), .int n, .int m, .int a] (ge_k g 25 r x hb) (some (.int (((a + n) * 2) ^^^ ((-(a - m)) ^^^ n)))) (ge_k (p_adds g k [13, 11, 10, 70, 40, 12]) 25 r x hb) := by
  refine gq_ofB (l := [(0, .ref (ge_ad X.1 10)), (1, .int n), (2, .int m), (3, .int a)]) (by decide) (Nat.le_of_ble_eq_true rfl) rfl ?_
  refine gq_aload_n (pc := 0) dX1_tells_0 rfl ?_
  refine gq_getr (pc := 1) dX1_tells_1 fl_X1_7_5 sh_10 rfl ?_
  refine gq_bipush (pc := 4) dX1_tells_4 kb_13 ?_
  refine gq_rV1v (pc := 6) dX1_tells_6 cv_X1_13 sh_1 (r_add_1 hk (by omega)) ⟨by decide, by decide⟩ rfl rfl (Nat.le_of_ble_eq_true rfl) ?_
  refine gq_aload_n (pc := 9) dX1_tells_9 rfl ?_
  refine gq_iload_n (pc := 10) dX1_tells_10 rfl ?_
  refine gq_iload_n (pc := 11) dX1_tells_11 rfl ?_
  refine gq_iload_n (pc := 12) dX1_tells_12 rfl ?_
  refine gq_rU3i (pc := 13) dX1_tells_13 cu_X1_23_5 sh_10 (c_X1_looks_10 (g := p_adds g k [13]) (k := k + 1) (p_adds_1 hk [13]) (by omega)) ⟨by decide, by decide⟩ rfl rfl (Nat.le_of_ble_eq_true rfl) ?_
  refine gq_tog (g := ge_k (p_adds g k [13, 11, 10]) 25 r x hb) (congrArg (fun q => ge_k q 25 r x hb) (p_adds_app g k [13] [11, 10]).symm) ?_
  refine gq_aload_n (pc := 16) dX1_tells_16 rfl ?_
  refine gq_iload_n (pc := 17) dX1_tells_17 rfl ?_
  refine gq_iload_n (pc := 18) dX1_tells_18 rfl ?_
  refine gq_iload_n (pc := 19) dX1_tells_19 rfl ?_
  refine gq_rU3i (pc := 20) dX1_tells_20 cu_X1_26_5 sh_10 (c_X5_blinks_10 (g := p_adds g k [13, 11, 10]) (k := k + 3) (p_adds_1 hk [13, 11, 10]) (by omega)) ⟨by decide, by decide⟩ rfl rfl (Nat.le_of_ble_eq_true rfl) ?_
  refine gq_tog (g := ge_k (p_adds g k [13, 11, 10, 70, 40, 12]) 25 r x hb) (congrArg (fun q => ge_k q 25 r x hb) (p_adds_app g k [13, 11, 10] [70, 40, 12]).symm) ?_
  refine gq_ixor (pc := 23) dX1_tells_23 ?_
  exact gq_iret (pc := 24) rfl dX1_tells_24 ⟨rfl, rfl⟩
set_option maxHeartbeats 400000 in
theorem c_X5_tells_10 {n m a : Int32} {k : Nat} (hk : g 1 1 = nI k) (hk2 : k + 9 ≤ 40) : ge_N X ge_SH YX5_tells 7 [.ref (ge_ad X.1 10), .int n, .int m, .int a] (ge_k g 25 r x hb) (some (.int (((a + n) * 2) - (((a + n) * 2) ^^^ ((-(a - m)) ^^^ n))))) (ge_k (p_adds g k [71, 11, 10, 13, 11, 10, 70, 40, 12]) 25 r x hb) := by
  refine gq_ofB (l := [(0, .ref (ge_ad X.1 10)), (1, .int n), (2, .int m), (3, .int a)]) (by decide) (Nat.le_of_ble_eq_true rfl) rfl ?_
  refine gq_aload_n (pc := 0) dX5_tells_0 rfl ?_
  refine gq_getr (pc := 1) dX5_tells_1 fl_X5_21_5 sh_10 rfl ?_
  refine gq_bipush (pc := 4) dX5_tells_4 kb_71 ?_
  refine gq_rV1v (pc := 6) dX5_tells_6 cv_X5_27 sh_1 (r_add_1 hk (by omega)) ⟨by decide, by decide⟩ rfl rfl (Nat.le_of_ble_eq_true rfl) ?_
  refine gq_aload_n (pc := 9) dX5_tells_9 rfl ?_
  refine gq_iload_n (pc := 10) dX5_tells_10 rfl ?_
  refine gq_iload_n (pc := 11) dX5_tells_11 rfl ?_
  refine gq_iload_n (pc := 12) dX5_tells_12 rfl ?_
  refine gq_rU3i (pc := 13) dX5_tells_13 cu_X5_37_5 sh_10 (c_X1_looks_10 (g := p_adds g k [71]) (k := k + 1) (p_adds_1 hk [71]) (by omega)) ⟨by decide, by decide⟩ rfl rfl (Nat.le_of_ble_eq_true rfl) ?_
  refine gq_tog (g := ge_k (p_adds g k [71, 11, 10]) 25 r x hb) (congrArg (fun q => ge_k q 25 r x hb) (p_adds_app g k [71] [11, 10]).symm) ?_
  refine gq_aload_n (pc := 16) dX5_tells_16 rfl ?_
  refine gq_iload_n (pc := 17) dX5_tells_17 rfl ?_
  refine gq_iload_n (pc := 18) dX5_tells_18 rfl ?_
  refine gq_iload_n (pc := 19) dX5_tells_19 rfl ?_
  refine gq_rQ3i (pc := 20) dX5_tells_20 cq_X5_40 sh_10 (c_X1_tells_10 (g := p_adds g k [71, 11, 10]) (k := k + 3) (p_adds_1 hk [71, 11, 10]) (by omega)) ⟨by decide, by decide⟩ rfl (Nat.le_of_ble_eq_true rfl) ?_
  refine gq_tog (g := ge_k (p_adds g k [71, 11, 10, 13, 11, 10, 70, 40, 12]) 25 r x hb) (congrArg (fun q => ge_k q 25 r x hb) (p_adds_app g k [71, 11, 10] [13, 11, 10, 70, 40, 12]).symm) ?_
  refine gq_isub (pc := 23) dX5_tells_23 ?_
  exact gq_iret (pc := 24) rfl dX5_tells_24 ⟨rfl, rfl⟩
set_option maxHeartbeats 400000 in
theorem c_voice_0_0 {e v : Int32} {j : Nat} (he : e = nI j) (hj : j < E) (hE : E ≤ 8) (e2 : r 2 = nI E) (ek : p_e r j 0 = 0) : ge_N X ge_SH YX11_voice 8 [.ref (ge_ad X.1 0), .int e, .int 0, .int v] (ge_k g 25 r x hb) (some (.int (v + e))) (ge_k (p_adds (ge_up g 1 1 0) 0 [10]) 25 r x hb) := by
  refine gq_ofB (l := [(0, .ref (ge_ad X.1 0)), (1, .int e), (2, .int 0), (3, .int v)]) (by decide) (Nat.le_of_ble_eq_true rfl) rfl ?_
  refine gq_aload_n (pc := 0) dX11_voice_0 rfl ?_
  refine gq_iload_n (pc := 1) dX11_voice_1 rfl ?_
  refine gq_rV1i (pc := 2) dX11_voice_2 cv_X11_126 sh_0 (c_noEye _) ⟨by decide, by decide⟩ rfl rfl (Nat.le_of_ble_eq_true rfl) ?_
  refine gq_if_ne (pc := 5) 17 dX11_voice_5 (by decide) (fun h_5 => ?_) (fun h_5 => ?_)
  · exact absurd (p_nt_0.mpr (p_in_E he hj (by omega) e2)) h_5
  · refine gq_iload_n (pc := 8) dX11_voice_8 rfl ?_
    refine gq_iconst (pc := 9) dX11_voice_9 kc_0 ?_
    refine gq_iconst (pc := 10) dX11_voice_10 kc_3 ?_
    refine gq_rS3i (pc := 11) dX11_voice_11 cs_X11_105 (c_outside _ _ _) ⟨by decide, by decide⟩ (Nat.le_of_ble_eq_true rfl) ?_
    refine gq_if_eq (pc := 14) 23 dX11_voice_14 (by decide) (fun h_14 => ?_) (fun h_14 => ?_)
    · refine gq_aload_n (pc := 23) dX11_voice_23 rfl ?_
      refine gq_getr (pc := 24) dX11_voice_24 fl_X11_14_11 sh_0 rfl ?_
      refine gq_iconst (pc := 27) dX11_voice_27 kc_0 ?_
      refine kq_puto (pw := 25) (pc := 28) (by decide) dX11_voice_28 fp_X11_182_7 sh_1 rfl ?_
      refine gq_aload_n (pc := 31) dX11_voice_31 rfl ?_
      refine gq_getr (pc := 32) dX11_voice_32 fl_X11_41_11 sh_0 rfl ?_
      refine gq_aload_n (pc := 35) dX11_voice_35 rfl ?_
      refine gq_getr (pc := 36) dX11_voice_36 fl_X11_60_11 sh_0 rfl ?_
      refine gq_getr (pc := 39) dX11_voice_39 fl_X11_129_10 sh_25 rfl ?_
      refine gq_iload_n (pc := 42) dX11_voice_42 rfl ?_
      refine kq_ald2 (pw := 25) (pc := 43) (by decide) dX11_voice_43 he (by first | decide | omega) ?_
      rw [ek]
      refine gq_aald (pc := 44) dX11_voice_44 sh_3 rfl kl_0 rfl (by decide) ?_
      refine gq_astore (pc := 45) (l' := [(4, _), (0, _), (1, _), (2, _), (3, _)]) dX11_voice_45 (by decide) rfl ?_
      refine gq_aload_n (pc := 47) dX11_voice_47 rfl ?_
      refine gq_getr (pc := 48) dX11_voice_48 fl_X11_60_11 sh_0 rfl ?_
      refine gq_getr (pc := 51) dX11_voice_51 fl_X11_132_10 sh_25 rfl ?_
      refine gq_iload_n (pc := 54) dX11_voice_54 rfl ?_
      refine kq_ald3 (pw := 25) (pc := 55) (by decide) dX11_voice_55 he (by first | decide | omega) ?_
      refine gq_istore (pc := 56) (l' := [(5, _), (4, _), (0, _), (1, _), (2, _), (3, _)]) dX11_voice_56 (by decide) rfl ?_
      refine gq_iload_n (pc := 58) dX11_voice_58 rfl ?_
      refine gq_tabI (pc := 59) (off := 25) 84 dX11_voice_59 (by decide) (by decide) (by decide) (by decide) ?_
      refine gq_aload (pc := 84) dX11_voice_84 rfl ?_
      refine gq_iload_n (pc := 86) dX11_voice_86 rfl ?_
      refine gq_iload (pc := 87) dX11_voice_87 rfl ?_
      refine gq_iload_n (pc := 89) dX11_voice_89 rfl ?_
      refine gq_rU3i (pc := 90) dX11_voice_90 cu_X11_281_1 sh_4 (c_X1_sees_4 (g := ge_up g 1 1 0) (k := 0) rfl (by decide)) ⟨by decide, by decide⟩ rfl rfl (Nat.le_of_ble_eq_true rfl) ?_
      exact gq_iret (pc := 93) rfl dX11_voice_93 ⟨rfl, rfl⟩
    · exact absurd (show p_nt (p_in 0 0 3) = 0 by decide) h_14
set_option maxHeartbeats 400000 in
theorem c_voice_0_1 {e v : Int32} {j : Nat} (he : e = nI j) (hj : j < E) (hE : E ≤ 8) (e2 : r 2 = nI E) (ek : p_e r j 0 = 0) : ge_N X ge_SH YX11_voice 8 [.ref (ge_ad X.1 0), .int e, .int 1, .int v] (ge_k g 25 r x hb) (some (.int ((v + e) * 2))) (ge_k (p_adds (ge_up g 1 1 0) 0 [11, 10]) 25 r x hb) := by
  refine gq_ofB (l := [(0, .ref (ge_ad X.1 0)), (1, .int e), (2, .int 1), (3, .int v)]) (by decide) (Nat.le_of_ble_eq_true rfl) rfl ?_
  refine gq_aload_n (pc := 0) dX11_voice_0 rfl ?_
  refine gq_iload_n (pc := 1) dX11_voice_1 rfl ?_
  refine gq_rV1i (pc := 2) dX11_voice_2 cv_X11_126 sh_0 (c_noEye _) ⟨by decide, by decide⟩ rfl rfl (Nat.le_of_ble_eq_true rfl) ?_
  refine gq_if_ne (pc := 5) 17 dX11_voice_5 (by decide) (fun h_5 => ?_) (fun h_5 => ?_)
  · exact absurd (p_nt_0.mpr (p_in_E he hj (by omega) e2)) h_5
  · refine gq_iload_n (pc := 8) dX11_voice_8 rfl ?_
    refine gq_iconst (pc := 9) dX11_voice_9 kc_0 ?_
    refine gq_iconst (pc := 10) dX11_voice_10 kc_3 ?_
    refine gq_rS3i (pc := 11) dX11_voice_11 cs_X11_105 (c_outside _ _ _) ⟨by decide, by decide⟩ (Nat.le_of_ble_eq_true rfl) ?_
    refine gq_if_eq (pc := 14) 23 dX11_voice_14 (by decide) (fun h_14 => ?_) (fun h_14 => ?_)
    · refine gq_aload_n (pc := 23) dX11_voice_23 rfl ?_
      refine gq_getr (pc := 24) dX11_voice_24 fl_X11_14_11 sh_0 rfl ?_
      refine gq_iconst (pc := 27) dX11_voice_27 kc_0 ?_
      refine kq_puto (pw := 25) (pc := 28) (by decide) dX11_voice_28 fp_X11_182_7 sh_1 rfl ?_
      refine gq_aload_n (pc := 31) dX11_voice_31 rfl ?_
      refine gq_getr (pc := 32) dX11_voice_32 fl_X11_41_11 sh_0 rfl ?_
      refine gq_aload_n (pc := 35) dX11_voice_35 rfl ?_
      refine gq_getr (pc := 36) dX11_voice_36 fl_X11_60_11 sh_0 rfl ?_
      refine gq_getr (pc := 39) dX11_voice_39 fl_X11_129_10 sh_25 rfl ?_
      refine gq_iload_n (pc := 42) dX11_voice_42 rfl ?_
      refine kq_ald2 (pw := 25) (pc := 43) (by decide) dX11_voice_43 he (by first | decide | omega) ?_
      rw [ek]
      refine gq_aald (pc := 44) dX11_voice_44 sh_3 rfl kl_0 rfl (by decide) ?_
      refine gq_astore (pc := 45) (l' := [(4, _), (0, _), (1, _), (2, _), (3, _)]) dX11_voice_45 (by decide) rfl ?_
      refine gq_aload_n (pc := 47) dX11_voice_47 rfl ?_
      refine gq_getr (pc := 48) dX11_voice_48 fl_X11_60_11 sh_0 rfl ?_
      refine gq_getr (pc := 51) dX11_voice_51 fl_X11_132_10 sh_25 rfl ?_
      refine gq_iload_n (pc := 54) dX11_voice_54 rfl ?_
      refine kq_ald3 (pw := 25) (pc := 55) (by decide) dX11_voice_55 he (by first | decide | omega) ?_
      refine gq_istore (pc := 56) (l' := [(5, _), (4, _), (0, _), (1, _), (2, _), (3, _)]) dX11_voice_56 (by decide) rfl ?_
      refine gq_iload_n (pc := 58) dX11_voice_58 rfl ?_
      refine gq_tabI (pc := 59) (off := 35) 94 dX11_voice_59 (by decide) (by decide) (by decide) (by decide) ?_
      refine gq_aload (pc := 94) dX11_voice_94 rfl ?_
      refine gq_iload_n (pc := 96) dX11_voice_96 rfl ?_
      refine gq_iload (pc := 97) dX11_voice_97 rfl ?_
      refine gq_iload_n (pc := 99) dX11_voice_99 rfl ?_
      refine gq_rU3i (pc := 100) dX11_voice_100 cu_X11_284_1 sh_4 (c_X1_looks_4 (g := ge_up g 1 1 0) (k := 0) rfl (by decide)) ⟨by decide, by decide⟩ rfl rfl (Nat.le_of_ble_eq_true rfl) ?_
      exact gq_iret (pc := 103) rfl dX11_voice_103 ⟨rfl, rfl⟩
    · exact absurd (show p_nt (p_in 1 0 3) = 0 by decide) h_14
set_option maxHeartbeats 400000 in
theorem c_voice_0_2 {e v : Int32} {j : Nat} (he : e = nI j) (hj : j < E) (hE : E ≤ 8) (e2 : r 2 = nI E) (ek : p_e r j 0 = 0) : ge_N X ge_SH YX11_voice 8 [.ref (ge_ad X.1 0), .int e, .int 2, .int v] (ge_k g 25 r x hb) (some (.int (v - p_e r j 1))) (ge_k (p_adds (ge_up g 1 1 0) 0 [12]) 25 r x hb) := by
  refine gq_ofB (l := [(0, .ref (ge_ad X.1 0)), (1, .int e), (2, .int 2), (3, .int v)]) (by decide) (Nat.le_of_ble_eq_true rfl) rfl ?_
  refine gq_aload_n (pc := 0) dX11_voice_0 rfl ?_
  refine gq_iload_n (pc := 1) dX11_voice_1 rfl ?_
  refine gq_rV1i (pc := 2) dX11_voice_2 cv_X11_126 sh_0 (c_noEye _) ⟨by decide, by decide⟩ rfl rfl (Nat.le_of_ble_eq_true rfl) ?_
  refine gq_if_ne (pc := 5) 17 dX11_voice_5 (by decide) (fun h_5 => ?_) (fun h_5 => ?_)
  · exact absurd (p_nt_0.mpr (p_in_E he hj (by omega) e2)) h_5
  · refine gq_iload_n (pc := 8) dX11_voice_8 rfl ?_
    refine gq_iconst (pc := 9) dX11_voice_9 kc_0 ?_
    refine gq_iconst (pc := 10) dX11_voice_10 kc_3 ?_
    refine gq_rS3i (pc := 11) dX11_voice_11 cs_X11_105 (c_outside _ _ _) ⟨by decide, by decide⟩ (Nat.le_of_ble_eq_true rfl) ?_
    refine gq_if_eq (pc := 14) 23 dX11_voice_14 (by decide) (fun h_14 => ?_) (fun h_14 => ?_)
    · refine gq_aload_n (pc := 23) dX11_voice_23 rfl ?_
      refine gq_getr (pc := 24) dX11_voice_24 fl_X11_14_11 sh_0 rfl ?_
      refine gq_iconst (pc := 27) dX11_voice_27 kc_0 ?_
      refine kq_puto (pw := 25) (pc := 28) (by decide) dX11_voice_28 fp_X11_182_7 sh_1 rfl ?_
      refine gq_aload_n (pc := 31) dX11_voice_31 rfl ?_
      refine gq_getr (pc := 32) dX11_voice_32 fl_X11_41_11 sh_0 rfl ?_
      refine gq_aload_n (pc := 35) dX11_voice_35 rfl ?_
      refine gq_getr (pc := 36) dX11_voice_36 fl_X11_60_11 sh_0 rfl ?_
      refine gq_getr (pc := 39) dX11_voice_39 fl_X11_129_10 sh_25 rfl ?_
      refine gq_iload_n (pc := 42) dX11_voice_42 rfl ?_
      refine kq_ald2 (pw := 25) (pc := 43) (by decide) dX11_voice_43 he (by first | decide | omega) ?_
      rw [ek]
      refine gq_aald (pc := 44) dX11_voice_44 sh_3 rfl kl_0 rfl (by decide) ?_
      refine gq_astore (pc := 45) (l' := [(4, _), (0, _), (1, _), (2, _), (3, _)]) dX11_voice_45 (by decide) rfl ?_
      refine gq_aload_n (pc := 47) dX11_voice_47 rfl ?_
      refine gq_getr (pc := 48) dX11_voice_48 fl_X11_60_11 sh_0 rfl ?_
      refine gq_getr (pc := 51) dX11_voice_51 fl_X11_132_10 sh_25 rfl ?_
      refine gq_iload_n (pc := 54) dX11_voice_54 rfl ?_
      refine kq_ald3 (pw := 25) (pc := 55) (by decide) dX11_voice_55 he (by first | decide | omega) ?_
      refine gq_istore (pc := 56) (l' := [(5, _), (4, _), (0, _), (1, _), (2, _), (3, _)]) dX11_voice_56 (by decide) rfl ?_
      refine gq_iload_n (pc := 58) dX11_voice_58 rfl ?_
      refine gq_tabI (pc := 59) (off := 45) 104 dX11_voice_59 (by decide) (by decide) (by decide) (by decide) ?_
      refine gq_aload (pc := 104) dX11_voice_104 rfl ?_
      refine gq_iload_n (pc := 106) dX11_voice_106 rfl ?_
      refine gq_iload (pc := 107) dX11_voice_107 rfl ?_
      refine gq_iload_n (pc := 109) dX11_voice_109 rfl ?_
      refine gq_rU3i (pc := 110) dX11_voice_110 cu_X11_287_1 sh_4 (c_X1_blinks_4 (g := ge_up g 1 1 0) (k := 0) rfl (by decide)) ⟨by decide, by decide⟩ rfl rfl (Nat.le_of_ble_eq_true rfl) ?_
      exact gq_iret (pc := 113) rfl dX11_voice_113 ⟨rfl, rfl⟩
    · exact absurd (show p_nt (p_in 2 0 3) = 0 by decide) h_14
set_option maxHeartbeats 400000 in
theorem c_voice_0_3 {e v : Int32} {j : Nat} (he : e = nI j) (hj : j < E) (hE : E ≤ 8) (e2 : r 2 = nI E) (ek : p_e r j 0 = 0) : ge_N X ge_SH YX11_voice 8 [.ref (ge_ad X.1 0), .int e, .int 3, .int v] (ge_k g 25 r x hb) (some (.int (((v + e) * 2) ^^^ (v - p_e r j 1)))) (ge_k (p_adds (ge_up g 1 1 0) 0 [13, 11, 10, 12]) 25 r x hb) := by
  refine gq_ofB (l := [(0, .ref (ge_ad X.1 0)), (1, .int e), (2, .int 3), (3, .int v)]) (by decide) (Nat.le_of_ble_eq_true rfl) rfl ?_
  refine gq_aload_n (pc := 0) dX11_voice_0 rfl ?_
  refine gq_iload_n (pc := 1) dX11_voice_1 rfl ?_
  refine gq_rV1i (pc := 2) dX11_voice_2 cv_X11_126 sh_0 (c_noEye _) ⟨by decide, by decide⟩ rfl rfl (Nat.le_of_ble_eq_true rfl) ?_
  refine gq_if_ne (pc := 5) 17 dX11_voice_5 (by decide) (fun h_5 => ?_) (fun h_5 => ?_)
  · exact absurd (p_nt_0.mpr (p_in_E he hj (by omega) e2)) h_5
  · refine gq_iload_n (pc := 8) dX11_voice_8 rfl ?_
    refine gq_iconst (pc := 9) dX11_voice_9 kc_0 ?_
    refine gq_iconst (pc := 10) dX11_voice_10 kc_3 ?_
    refine gq_rS3i (pc := 11) dX11_voice_11 cs_X11_105 (c_outside _ _ _) ⟨by decide, by decide⟩ (Nat.le_of_ble_eq_true rfl) ?_
    refine gq_if_eq (pc := 14) 23 dX11_voice_14 (by decide) (fun h_14 => ?_) (fun h_14 => ?_)
    · refine gq_aload_n (pc := 23) dX11_voice_23 rfl ?_
      refine gq_getr (pc := 24) dX11_voice_24 fl_X11_14_11 sh_0 rfl ?_
      refine gq_iconst (pc := 27) dX11_voice_27 kc_0 ?_
      refine kq_puto (pw := 25) (pc := 28) (by decide) dX11_voice_28 fp_X11_182_7 sh_1 rfl ?_
      refine gq_aload_n (pc := 31) dX11_voice_31 rfl ?_
      refine gq_getr (pc := 32) dX11_voice_32 fl_X11_41_11 sh_0 rfl ?_
      refine gq_aload_n (pc := 35) dX11_voice_35 rfl ?_
      refine gq_getr (pc := 36) dX11_voice_36 fl_X11_60_11 sh_0 rfl ?_
      refine gq_getr (pc := 39) dX11_voice_39 fl_X11_129_10 sh_25 rfl ?_
      refine gq_iload_n (pc := 42) dX11_voice_42 rfl ?_
      refine kq_ald2 (pw := 25) (pc := 43) (by decide) dX11_voice_43 he (by first | decide | omega) ?_
      rw [ek]
      refine gq_aald (pc := 44) dX11_voice_44 sh_3 rfl kl_0 rfl (by decide) ?_
      refine gq_astore (pc := 45) (l' := [(4, _), (0, _), (1, _), (2, _), (3, _)]) dX11_voice_45 (by decide) rfl ?_
      refine gq_aload_n (pc := 47) dX11_voice_47 rfl ?_
      refine gq_getr (pc := 48) dX11_voice_48 fl_X11_60_11 sh_0 rfl ?_
      refine gq_getr (pc := 51) dX11_voice_51 fl_X11_132_10 sh_25 rfl ?_
      refine gq_iload_n (pc := 54) dX11_voice_54 rfl ?_
      refine kq_ald3 (pw := 25) (pc := 55) (by decide) dX11_voice_55 he (by first | decide | omega) ?_
      refine gq_istore (pc := 56) (l' := [(5, _), (4, _), (0, _), (1, _), (2, _), (3, _)]) dX11_voice_56 (by decide) rfl ?_
      refine gq_iload_n (pc := 58) dX11_voice_58 rfl ?_
      refine gq_tabO (pc := 59) 114 dX11_voice_59 (by decide) (by decide) ?_
      refine gq_aload (pc := 114) dX11_voice_114 rfl ?_
      refine gq_iload_n (pc := 116) dX11_voice_116 rfl ?_
      refine gq_iload (pc := 117) dX11_voice_117 rfl ?_
      refine gq_iload_n (pc := 119) dX11_voice_119 rfl ?_
      refine gq_rU3i (pc := 120) dX11_voice_120 cu_X11_290_1 sh_4 (c_X1_tells_4 (g := ge_up g 1 1 0) (k := 0) rfl (by decide)) ⟨by decide, by decide⟩ rfl rfl (Nat.le_of_ble_eq_true rfl) ?_
      exact gq_iret (pc := 123) rfl dX11_voice_123 ⟨rfl, rfl⟩
    · exact absurd (show p_nt (p_in 3 0 3) = 0 by decide) h_14
set_option maxHeartbeats 400000 in
theorem c_voice_1_0 {e v : Int32} {j : Nat} (he : e = nI j) (hj : j < E) (hE : E ≤ 8) (e2 : r 2 = nI E) (ek : p_e r j 0 = 1) : ge_N X ge_SH YX11_voice 8 [.ref (ge_ad X.1 0), .int e, .int 0, .int v] (ge_k g 25 r x hb) (some (.int ((v + e) * 3))) (ge_k (p_adds (ge_up g 1 1 0) 0 [20, 10]) 25 r x hb) := by
  refine gq_ofB (l := [(0, .ref (ge_ad X.1 0)), (1, .int e), (2, .int 0), (3, .int v)]) (by decide) (Nat.le_of_ble_eq_true rfl) rfl ?_
  refine gq_aload_n (pc := 0) dX11_voice_0 rfl ?_
  refine gq_iload_n (pc := 1) dX11_voice_1 rfl ?_
  refine gq_rV1i (pc := 2) dX11_voice_2 cv_X11_126 sh_0 (c_noEye _) ⟨by decide, by decide⟩ rfl rfl (Nat.le_of_ble_eq_true rfl) ?_
  refine gq_if_ne (pc := 5) 17 dX11_voice_5 (by decide) (fun h_5 => ?_) (fun h_5 => ?_)
  · exact absurd (p_nt_0.mpr (p_in_E he hj (by omega) e2)) h_5
  · refine gq_iload_n (pc := 8) dX11_voice_8 rfl ?_
    refine gq_iconst (pc := 9) dX11_voice_9 kc_0 ?_
    refine gq_iconst (pc := 10) dX11_voice_10 kc_3 ?_
    refine gq_rS3i (pc := 11) dX11_voice_11 cs_X11_105 (c_outside _ _ _) ⟨by decide, by decide⟩ (Nat.le_of_ble_eq_true rfl) ?_
    refine gq_if_eq (pc := 14) 23 dX11_voice_14 (by decide) (fun h_14 => ?_) (fun h_14 => ?_)
    · refine gq_aload_n (pc := 23) dX11_voice_23 rfl ?_
      refine gq_getr (pc := 24) dX11_voice_24 fl_X11_14_11 sh_0 rfl ?_
      refine gq_iconst (pc := 27) dX11_voice_27 kc_0 ?_
      refine kq_puto (pw := 25) (pc := 28) (by decide) dX11_voice_28 fp_X11_182_7 sh_1 rfl ?_
      refine gq_aload_n (pc := 31) dX11_voice_31 rfl ?_
      refine gq_getr (pc := 32) dX11_voice_32 fl_X11_41_11 sh_0 rfl ?_
      refine gq_aload_n (pc := 35) dX11_voice_35 rfl ?_
      refine gq_getr (pc := 36) dX11_voice_36 fl_X11_60_11 sh_0 rfl ?_
      refine gq_getr (pc := 39) dX11_voice_39 fl_X11_129_10 sh_25 rfl ?_
      refine gq_iload_n (pc := 42) dX11_voice_42 rfl ?_
      refine kq_ald2 (pw := 25) (pc := 43) (by decide) dX11_voice_43 he (by first | decide | omega) ?_
      rw [ek]
      refine gq_aald (pc := 44) dX11_voice_44 sh_3 rfl kl_1 rfl (by decide) ?_
      refine gq_astore (pc := 45) (l' := [(4, _), (0, _), (1, _), (2, _), (3, _)]) dX11_voice_45 (by decide) rfl ?_
      refine gq_aload_n (pc := 47) dX11_voice_47 rfl ?_
      refine gq_getr (pc := 48) dX11_voice_48 fl_X11_60_11 sh_0 rfl ?_
      refine gq_getr (pc := 51) dX11_voice_51 fl_X11_132_10 sh_25 rfl ?_
      refine gq_iload_n (pc := 54) dX11_voice_54 rfl ?_
      refine kq_ald3 (pw := 25) (pc := 55) (by decide) dX11_voice_55 he (by first | decide | omega) ?_
      refine gq_istore (pc := 56) (l' := [(5, _), (4, _), (0, _), (1, _), (2, _), (3, _)]) dX11_voice_56 (by decide) rfl ?_
      refine gq_iload_n (pc := 58) dX11_voice_58 rfl ?_
      refine gq_tabI (pc := 59) (off := 25) 84 dX11_voice_59 (by decide) (by decide) (by decide) (by decide) ?_
      refine gq_aload (pc := 84) dX11_voice_84 rfl ?_
      refine gq_iload_n (pc := 86) dX11_voice_86 rfl ?_
      refine gq_iload (pc := 87) dX11_voice_87 rfl ?_
      refine gq_iload_n (pc := 89) dX11_voice_89 rfl ?_
      refine gq_rU3i (pc := 90) dX11_voice_90 cu_X11_281_6 sh_5 (c_X6_sees_5 (g := ge_up g 1 1 0) (k := 0) rfl (by decide)) ⟨by decide, by decide⟩ rfl rfl (Nat.le_of_ble_eq_true rfl) ?_
      exact gq_iret (pc := 93) rfl dX11_voice_93 ⟨rfl, rfl⟩
    · exact absurd (show p_nt (p_in 0 0 3) = 0 by decide) h_14
set_option maxHeartbeats 400000 in
theorem c_voice_1_1 {e v : Int32} {j : Nat} (he : e = nI j) (hj : j < E) (hE : E ≤ 8) (e2 : r 2 = nI E) (ek : p_e r j 0 = 1) : ge_N X ge_SH YX11_voice 8 [.ref (ge_ad X.1 0), .int e, .int 1, .int v] (ge_k g 25 r x hb) (some (.int (((v + e) * 3) * 2))) (ge_k (p_adds (ge_up g 1 1 0) 0 [11, 20, 10]) 25 r x hb) := by
  refine gq_ofB (l := [(0, .ref (ge_ad X.1 0)), (1, .int e), (2, .int 1), (3, .int v)]) (by decide) (Nat.le_of_ble_eq_true rfl) rfl ?_
  refine gq_aload_n (pc := 0) dX11_voice_0 rfl ?_
  refine gq_iload_n (pc := 1) dX11_voice_1 rfl ?_
  refine gq_rV1i (pc := 2) dX11_voice_2 cv_X11_126 sh_0 (c_noEye _) ⟨by decide, by decide⟩ rfl rfl (Nat.le_of_ble_eq_true rfl) ?_
  refine gq_if_ne (pc := 5) 17 dX11_voice_5 (by decide) (fun h_5 => ?_) (fun h_5 => ?_)
  · exact absurd (p_nt_0.mpr (p_in_E he hj (by omega) e2)) h_5
  · refine gq_iload_n (pc := 8) dX11_voice_8 rfl ?_
    refine gq_iconst (pc := 9) dX11_voice_9 kc_0 ?_
    refine gq_iconst (pc := 10) dX11_voice_10 kc_3 ?_
    refine gq_rS3i (pc := 11) dX11_voice_11 cs_X11_105 (c_outside _ _ _) ⟨by decide, by decide⟩ (Nat.le_of_ble_eq_true rfl) ?_
    refine gq_if_eq (pc := 14) 23 dX11_voice_14 (by decide) (fun h_14 => ?_) (fun h_14 => ?_)
    · refine gq_aload_n (pc := 23) dX11_voice_23 rfl ?_
      refine gq_getr (pc := 24) dX11_voice_24 fl_X11_14_11 sh_0 rfl ?_
      refine gq_iconst (pc := 27) dX11_voice_27 kc_0 ?_
      refine kq_puto (pw := 25) (pc := 28) (by decide) dX11_voice_28 fp_X11_182_7 sh_1 rfl ?_
      refine gq_aload_n (pc := 31) dX11_voice_31 rfl ?_
      refine gq_getr (pc := 32) dX11_voice_32 fl_X11_41_11 sh_0 rfl ?_
      refine gq_aload_n (pc := 35) dX11_voice_35 rfl ?_
      refine gq_getr (pc := 36) dX11_voice_36 fl_X11_60_11 sh_0 rfl ?_
      refine gq_getr (pc := 39) dX11_voice_39 fl_X11_129_10 sh_25 rfl ?_
      refine gq_iload_n (pc := 42) dX11_voice_42 rfl ?_
      refine kq_ald2 (pw := 25) (pc := 43) (by decide) dX11_voice_43 he (by first | decide | omega) ?_
      rw [ek]
      refine gq_aald (pc := 44) dX11_voice_44 sh_3 rfl kl_1 rfl (by decide) ?_
      refine gq_astore (pc := 45) (l' := [(4, _), (0, _), (1, _), (2, _), (3, _)]) dX11_voice_45 (by decide) rfl ?_
      refine gq_aload_n (pc := 47) dX11_voice_47 rfl ?_
      refine gq_getr (pc := 48) dX11_voice_48 fl_X11_60_11 sh_0 rfl ?_
      refine gq_getr (pc := 51) dX11_voice_51 fl_X11_132_10 sh_25 rfl ?_
      refine gq_iload_n (pc := 54) dX11_voice_54 rfl ?_
      refine kq_ald3 (pw := 25) (pc := 55) (by decide) dX11_voice_55 he (by first | decide | omega) ?_
      refine gq_istore (pc := 56) (l' := [(5, _), (4, _), (0, _), (1, _), (2, _), (3, _)]) dX11_voice_56 (by decide) rfl ?_
      refine gq_iload_n (pc := 58) dX11_voice_58 rfl ?_
      refine gq_tabI (pc := 59) (off := 35) 94 dX11_voice_59 (by decide) (by decide) (by decide) (by decide) ?_
      refine gq_aload (pc := 94) dX11_voice_94 rfl ?_
      refine gq_iload_n (pc := 96) dX11_voice_96 rfl ?_
      refine gq_iload (pc := 97) dX11_voice_97 rfl ?_
      refine gq_iload_n (pc := 99) dX11_voice_99 rfl ?_
      refine gq_rU3i (pc := 100) dX11_voice_100 cu_X11_284_6 sh_5 (c_X1_looks_5 (g := ge_up g 1 1 0) (k := 0) rfl (by decide)) ⟨by decide, by decide⟩ rfl rfl (Nat.le_of_ble_eq_true rfl) ?_
      exact gq_iret (pc := 103) rfl dX11_voice_103 ⟨rfl, rfl⟩
    · exact absurd (show p_nt (p_in 1 0 3) = 0 by decide) h_14
set_option maxHeartbeats 400000 in
theorem c_voice_1_2 {e v : Int32} {j : Nat} (he : e = nI j) (hj : j < E) (hE : E ≤ 8) (e2 : r 2 = nI E) (ek : p_e r j 0 = 1) : ge_N X ge_SH YX11_voice 8 [.ref (ge_ad X.1 0), .int e, .int 2, .int v] (ge_k g 25 r x hb) (some (.int (v - p_e r j 1))) (ge_k (p_adds (ge_up g 1 1 0) 0 [12]) 25 r x hb) := by
  refine gq_ofB (l := [(0, .ref (ge_ad X.1 0)), (1, .int e), (2, .int 2), (3, .int v)]) (by decide) (Nat.le_of_ble_eq_true rfl) rfl ?_
  refine gq_aload_n (pc := 0) dX11_voice_0 rfl ?_
  refine gq_iload_n (pc := 1) dX11_voice_1 rfl ?_
  refine gq_rV1i (pc := 2) dX11_voice_2 cv_X11_126 sh_0 (c_noEye _) ⟨by decide, by decide⟩ rfl rfl (Nat.le_of_ble_eq_true rfl) ?_
  refine gq_if_ne (pc := 5) 17 dX11_voice_5 (by decide) (fun h_5 => ?_) (fun h_5 => ?_)
  · exact absurd (p_nt_0.mpr (p_in_E he hj (by omega) e2)) h_5
  · refine gq_iload_n (pc := 8) dX11_voice_8 rfl ?_
    refine gq_iconst (pc := 9) dX11_voice_9 kc_0 ?_
    refine gq_iconst (pc := 10) dX11_voice_10 kc_3 ?_
    refine gq_rS3i (pc := 11) dX11_voice_11 cs_X11_105 (c_outside _ _ _) ⟨by decide, by decide⟩ (Nat.le_of_ble_eq_true rfl) ?_
    refine gq_if_eq (pc := 14) 23 dX11_voice_14 (by decide) (fun h_14 => ?_) (fun h_14 => ?_)
    · refine gq_aload_n (pc := 23) dX11_voice_23 rfl ?_
      refine gq_getr (pc := 24) dX11_voice_24 fl_X11_14_11 sh_0 rfl ?_
      refine gq_iconst (pc := 27) dX11_voice_27 kc_0 ?_
      refine kq_puto (pw := 25) (pc := 28) (by decide) dX11_voice_28 fp_X11_182_7 sh_1 rfl ?_
      refine gq_aload_n (pc := 31) dX11_voice_31 rfl ?_
      refine gq_getr (pc := 32) dX11_voice_32 fl_X11_41_11 sh_0 rfl ?_
      refine gq_aload_n (pc := 35) dX11_voice_35 rfl ?_
      refine gq_getr (pc := 36) dX11_voice_36 fl_X11_60_11 sh_0 rfl ?_
      refine gq_getr (pc := 39) dX11_voice_39 fl_X11_129_10 sh_25 rfl ?_
      refine gq_iload_n (pc := 42) dX11_voice_42 rfl ?_
      refine kq_ald2 (pw := 25) (pc := 43) (by decide) dX11_voice_43 he (by first | decide | omega) ?_
      rw [ek]
      refine gq_aald (pc := 44) dX11_voice_44 sh_3 rfl kl_1 rfl (by decide) ?_
      refine gq_astore (pc := 45) (l' := [(4, _), (0, _), (1, _), (2, _), (3, _)]) dX11_voice_45 (by decide) rfl ?_
      refine gq_aload_n (pc := 47) dX11_voice_47 rfl ?_
      refine gq_getr (pc := 48) dX11_voice_48 fl_X11_60_11 sh_0 rfl ?_
      refine gq_getr (pc := 51) dX11_voice_51 fl_X11_132_10 sh_25 rfl ?_
      refine gq_iload_n (pc := 54) dX11_voice_54 rfl ?_
      refine kq_ald3 (pw := 25) (pc := 55) (by decide) dX11_voice_55 he (by first | decide | omega) ?_
      refine gq_istore (pc := 56) (l' := [(5, _), (4, _), (0, _), (1, _), (2, _), (3, _)]) dX11_voice_56 (by decide) rfl ?_
      refine gq_iload_n (pc := 58) dX11_voice_58 rfl ?_
      refine gq_tabI (pc := 59) (off := 45) 104 dX11_voice_59 (by decide) (by decide) (by decide) (by decide) ?_
      refine gq_aload (pc := 104) dX11_voice_104 rfl ?_
      refine gq_iload_n (pc := 106) dX11_voice_106 rfl ?_
      refine gq_iload (pc := 107) dX11_voice_107 rfl ?_
      refine gq_iload_n (pc := 109) dX11_voice_109 rfl ?_
      refine gq_rU3i (pc := 110) dX11_voice_110 cu_X11_287_6 sh_5 (c_X1_blinks_5 (g := ge_up g 1 1 0) (k := 0) rfl (by decide)) ⟨by decide, by decide⟩ rfl rfl (Nat.le_of_ble_eq_true rfl) ?_
      exact gq_iret (pc := 113) rfl dX11_voice_113 ⟨rfl, rfl⟩
    · exact absurd (show p_nt (p_in 2 0 3) = 0 by decide) h_14
set_option maxHeartbeats 400000 in
theorem c_voice_1_3 {e v : Int32} {j : Nat} (he : e = nI j) (hj : j < E) (hE : E ≤ 8) (e2 : r 2 = nI E) (ek : p_e r j 0 = 1) : ge_N X ge_SH YX11_voice 8 [.ref (ge_ad X.1 0), .int e, .int 3, .int v] (ge_k g 25 r x hb) (some (.int ((((v + e) * 3) * 2) ^^^ (v - p_e r j 1)))) (ge_k (p_adds (ge_up g 1 1 0) 0 [13, 11, 20, 10, 12]) 25 r x hb) := by
  refine gq_ofB (l := [(0, .ref (ge_ad X.1 0)), (1, .int e), (2, .int 3), (3, .int v)]) (by decide) (Nat.le_of_ble_eq_true rfl) rfl ?_
  refine gq_aload_n (pc := 0) dX11_voice_0 rfl ?_
  refine gq_iload_n (pc := 1) dX11_voice_1 rfl ?_
  refine gq_rV1i (pc := 2) dX11_voice_2 cv_X11_126 sh_0 (c_noEye _) ⟨by decide, by decide⟩ rfl rfl (Nat.le_of_ble_eq_true rfl) ?_
  refine gq_if_ne (pc := 5) 17 dX11_voice_5 (by decide) (fun h_5 => ?_) (fun h_5 => ?_)
  · exact absurd (p_nt_0.mpr (p_in_E he hj (by omega) e2)) h_5
  · refine gq_iload_n (pc := 8) dX11_voice_8 rfl ?_
    refine gq_iconst (pc := 9) dX11_voice_9 kc_0 ?_
    refine gq_iconst (pc := 10) dX11_voice_10 kc_3 ?_
    refine gq_rS3i (pc := 11) dX11_voice_11 cs_X11_105 (c_outside _ _ _) ⟨by decide, by decide⟩ (Nat.le_of_ble_eq_true rfl) ?_
    refine gq_if_eq (pc := 14) 23 dX11_voice_14 (by decide) (fun h_14 => ?_) (fun h_14 => ?_)
    · refine gq_aload_n (pc := 23) dX11_voice_23 rfl ?_
      refine gq_getr (pc := 24) dX11_voice_24 fl_X11_14_11 sh_0 rfl ?_
      refine gq_iconst (pc := 27) dX11_voice_27 kc_0 ?_
      refine kq_puto (pw := 25) (pc := 28) (by decide) dX11_voice_28 fp_X11_182_7 sh_1 rfl ?_
      refine gq_aload_n (pc := 31) dX11_voice_31 rfl ?_
      refine gq_getr (pc := 32) dX11_voice_32 fl_X11_41_11 sh_0 rfl ?_
      refine gq_aload_n (pc := 35) dX11_voice_35 rfl ?_
      refine gq_getr (pc := 36) dX11_voice_36 fl_X11_60_11 sh_0 rfl ?_
      refine gq_getr (pc := 39) dX11_voice_39 fl_X11_129_10 sh_25 rfl ?_
      refine gq_iload_n (pc := 42) dX11_voice_42 rfl ?_
      refine kq_ald2 (pw := 25) (pc := 43) (by decide) dX11_voice_43 he (by first | decide | omega) ?_
      rw [ek]
      refine gq_aald (pc := 44) dX11_voice_44 sh_3 rfl kl_1 rfl (by decide) ?_
      refine gq_astore (pc := 45) (l' := [(4, _), (0, _), (1, _), (2, _), (3, _)]) dX11_voice_45 (by decide) rfl ?_
      refine gq_aload_n (pc := 47) dX11_voice_47 rfl ?_
      refine gq_getr (pc := 48) dX11_voice_48 fl_X11_60_11 sh_0 rfl ?_
      refine gq_getr (pc := 51) dX11_voice_51 fl_X11_132_10 sh_25 rfl ?_
      refine gq_iload_n (pc := 54) dX11_voice_54 rfl ?_
      refine kq_ald3 (pw := 25) (pc := 55) (by decide) dX11_voice_55 he (by first | decide | omega) ?_
      refine gq_istore (pc := 56) (l' := [(5, _), (4, _), (0, _), (1, _), (2, _), (3, _)]) dX11_voice_56 (by decide) rfl ?_
      refine gq_iload_n (pc := 58) dX11_voice_58 rfl ?_
      refine gq_tabO (pc := 59) 114 dX11_voice_59 (by decide) (by decide) ?_
      refine gq_aload (pc := 114) dX11_voice_114 rfl ?_
      refine gq_iload_n (pc := 116) dX11_voice_116 rfl ?_
      refine gq_iload (pc := 117) dX11_voice_117 rfl ?_
      refine gq_iload_n (pc := 119) dX11_voice_119 rfl ?_
      refine gq_rU3i (pc := 120) dX11_voice_120 cu_X11_290_6 sh_5 (c_X1_tells_5 (g := ge_up g 1 1 0) (k := 0) rfl (by decide)) ⟨by decide, by decide⟩ rfl rfl (Nat.le_of_ble_eq_true rfl) ?_
      exact gq_iret (pc := 123) rfl dX11_voice_123 ⟨rfl, rfl⟩
    · exact absurd (show p_nt (p_in 3 0 3) = 0 by decide) h_14
set_option maxHeartbeats 400000 in
theorem c_voice_2_0 {e v : Int32} {j : Nat} (he : e = nI j) (hj : j < E) (hE : E ≤ 8) (e2 : r 2 = nI E) (ek : p_e r j 0 = 2) : ge_N X ge_SH YX11_voice 8 [.ref (ge_ad X.1 0), .int e, .int 0, .int v] (ge_k g 25 r x hb) (some (.int (v + e))) (ge_k (p_adds (ge_up g 1 1 0) 0 [10]) 25 r x hb) := by
  refine gq_ofB (l := [(0, .ref (ge_ad X.1 0)), (1, .int e), (2, .int 0), (3, .int v)]) (by decide) (Nat.le_of_ble_eq_true rfl) rfl ?_
  refine gq_aload_n (pc := 0) dX11_voice_0 rfl ?_
  refine gq_iload_n (pc := 1) dX11_voice_1 rfl ?_
  refine gq_rV1i (pc := 2) dX11_voice_2 cv_X11_126 sh_0 (c_noEye _) ⟨by decide, by decide⟩ rfl rfl (Nat.le_of_ble_eq_true rfl) ?_
  refine gq_if_ne (pc := 5) 17 dX11_voice_5 (by decide) (fun h_5 => ?_) (fun h_5 => ?_)
  · exact absurd (p_nt_0.mpr (p_in_E he hj (by omega) e2)) h_5
  · refine gq_iload_n (pc := 8) dX11_voice_8 rfl ?_
    refine gq_iconst (pc := 9) dX11_voice_9 kc_0 ?_
    refine gq_iconst (pc := 10) dX11_voice_10 kc_3 ?_
    refine gq_rS3i (pc := 11) dX11_voice_11 cs_X11_105 (c_outside _ _ _) ⟨by decide, by decide⟩ (Nat.le_of_ble_eq_true rfl) ?_
    refine gq_if_eq (pc := 14) 23 dX11_voice_14 (by decide) (fun h_14 => ?_) (fun h_14 => ?_)
    · refine gq_aload_n (pc := 23) dX11_voice_23 rfl ?_
      refine gq_getr (pc := 24) dX11_voice_24 fl_X11_14_11 sh_0 rfl ?_
      refine gq_iconst (pc := 27) dX11_voice_27 kc_0 ?_
      refine kq_puto (pw := 25) (pc := 28) (by decide) dX11_voice_28 fp_X11_182_7 sh_1 rfl ?_
      refine gq_aload_n (pc := 31) dX11_voice_31 rfl ?_
      refine gq_getr (pc := 32) dX11_voice_32 fl_X11_41_11 sh_0 rfl ?_
      refine gq_aload_n (pc := 35) dX11_voice_35 rfl ?_
      refine gq_getr (pc := 36) dX11_voice_36 fl_X11_60_11 sh_0 rfl ?_
      refine gq_getr (pc := 39) dX11_voice_39 fl_X11_129_10 sh_25 rfl ?_
      refine gq_iload_n (pc := 42) dX11_voice_42 rfl ?_
      refine kq_ald2 (pw := 25) (pc := 43) (by decide) dX11_voice_43 he (by first | decide | omega) ?_
      rw [ek]
      refine gq_aald (pc := 44) dX11_voice_44 sh_3 rfl kl_2 rfl (by decide) ?_
      refine gq_astore (pc := 45) (l' := [(4, _), (0, _), (1, _), (2, _), (3, _)]) dX11_voice_45 (by decide) rfl ?_
      refine gq_aload_n (pc := 47) dX11_voice_47 rfl ?_
      refine gq_getr (pc := 48) dX11_voice_48 fl_X11_60_11 sh_0 rfl ?_
      refine gq_getr (pc := 51) dX11_voice_51 fl_X11_132_10 sh_25 rfl ?_
      refine gq_iload_n (pc := 54) dX11_voice_54 rfl ?_
      refine kq_ald3 (pw := 25) (pc := 55) (by decide) dX11_voice_55 he (by first | decide | omega) ?_
      refine gq_istore (pc := 56) (l' := [(5, _), (4, _), (0, _), (1, _), (2, _), (3, _)]) dX11_voice_56 (by decide) rfl ?_
      refine gq_iload_n (pc := 58) dX11_voice_58 rfl ?_
      refine gq_tabI (pc := 59) (off := 25) 84 dX11_voice_59 (by decide) (by decide) (by decide) (by decide) ?_
      refine gq_aload (pc := 84) dX11_voice_84 rfl ?_
      refine gq_iload_n (pc := 86) dX11_voice_86 rfl ?_
      refine gq_iload (pc := 87) dX11_voice_87 rfl ?_
      refine gq_iload_n (pc := 89) dX11_voice_89 rfl ?_
      refine gq_rU3i (pc := 90) dX11_voice_90 cu_X11_281_2 sh_6 (c_X1_sees_6 (g := ge_up g 1 1 0) (k := 0) rfl (by decide)) ⟨by decide, by decide⟩ rfl rfl (Nat.le_of_ble_eq_true rfl) ?_
      exact gq_iret (pc := 93) rfl dX11_voice_93 ⟨rfl, rfl⟩
    · exact absurd (show p_nt (p_in 0 0 3) = 0 by decide) h_14
set_option maxHeartbeats 400000 in
theorem c_voice_2_1 {e v : Int32} {j : Nat} (he : e = nI j) (hj : j < E) (hE : E ≤ 8) (e2 : r 2 = nI E) (ek : p_e r j 0 = 2) : ge_N X ge_SH YX11_voice 8 [.ref (ge_ad X.1 0), .int e, .int 1, .int v] (ge_k g 25 r x hb) (some (.int (((v + e) * 2) - (1 - p_e r j 1)))) (ge_k (p_adds (ge_up g 1 1 0) 0 [30, 11, 10, 12]) 25 r x hb) := by
  refine gq_ofB (l := [(0, .ref (ge_ad X.1 0)), (1, .int e), (2, .int 1), (3, .int v)]) (by decide) (Nat.le_of_ble_eq_true rfl) rfl ?_
  refine gq_aload_n (pc := 0) dX11_voice_0 rfl ?_
  refine gq_iload_n (pc := 1) dX11_voice_1 rfl ?_
  refine gq_rV1i (pc := 2) dX11_voice_2 cv_X11_126 sh_0 (c_noEye _) ⟨by decide, by decide⟩ rfl rfl (Nat.le_of_ble_eq_true rfl) ?_
  refine gq_if_ne (pc := 5) 17 dX11_voice_5 (by decide) (fun h_5 => ?_) (fun h_5 => ?_)
  · exact absurd (p_nt_0.mpr (p_in_E he hj (by omega) e2)) h_5
  · refine gq_iload_n (pc := 8) dX11_voice_8 rfl ?_
    refine gq_iconst (pc := 9) dX11_voice_9 kc_0 ?_
    refine gq_iconst (pc := 10) dX11_voice_10 kc_3 ?_
    refine gq_rS3i (pc := 11) dX11_voice_11 cs_X11_105 (c_outside _ _ _) ⟨by decide, by decide⟩ (Nat.le_of_ble_eq_true rfl) ?_
    refine gq_if_eq (pc := 14) 23 dX11_voice_14 (by decide) (fun h_14 => ?_) (fun h_14 => ?_)
    · refine gq_aload_n (pc := 23) dX11_voice_23 rfl ?_
      refine gq_getr (pc := 24) dX11_voice_24 fl_X11_14_11 sh_0 rfl ?_
      refine gq_iconst (pc := 27) dX11_voice_27 kc_0 ?_
      refine kq_puto (pw := 25) (pc := 28) (by decide) dX11_voice_28 fp_X11_182_7 sh_1 rfl ?_
      refine gq_aload_n (pc := 31) dX11_voice_31 rfl ?_
      refine gq_getr (pc := 32) dX11_voice_32 fl_X11_41_11 sh_0 rfl ?_
      refine gq_aload_n (pc := 35) dX11_voice_35 rfl ?_
      refine gq_getr (pc := 36) dX11_voice_36 fl_X11_60_11 sh_0 rfl ?_
      refine gq_getr (pc := 39) dX11_voice_39 fl_X11_129_10 sh_25 rfl ?_
      refine gq_iload_n (pc := 42) dX11_voice_42 rfl ?_
      refine kq_ald2 (pw := 25) (pc := 43) (by decide) dX11_voice_43 he (by first | decide | omega) ?_
      rw [ek]
      refine gq_aald (pc := 44) dX11_voice_44 sh_3 rfl kl_2 rfl (by decide) ?_
      refine gq_astore (pc := 45) (l' := [(4, _), (0, _), (1, _), (2, _), (3, _)]) dX11_voice_45 (by decide) rfl ?_
      refine gq_aload_n (pc := 47) dX11_voice_47 rfl ?_
      refine gq_getr (pc := 48) dX11_voice_48 fl_X11_60_11 sh_0 rfl ?_
      refine gq_getr (pc := 51) dX11_voice_51 fl_X11_132_10 sh_25 rfl ?_
      refine gq_iload_n (pc := 54) dX11_voice_54 rfl ?_
      refine kq_ald3 (pw := 25) (pc := 55) (by decide) dX11_voice_55 he (by first | decide | omega) ?_
      refine gq_istore (pc := 56) (l' := [(5, _), (4, _), (0, _), (1, _), (2, _), (3, _)]) dX11_voice_56 (by decide) rfl ?_
      refine gq_iload_n (pc := 58) dX11_voice_58 rfl ?_
      refine gq_tabI (pc := 59) (off := 35) 94 dX11_voice_59 (by decide) (by decide) (by decide) (by decide) ?_
      refine gq_aload (pc := 94) dX11_voice_94 rfl ?_
      refine gq_iload_n (pc := 96) dX11_voice_96 rfl ?_
      refine gq_iload (pc := 97) dX11_voice_97 rfl ?_
      refine gq_iload_n (pc := 99) dX11_voice_99 rfl ?_
      refine gq_rU3i (pc := 100) dX11_voice_100 cu_X11_284_2 sh_6 (c_X2_looks_6 (g := ge_up g 1 1 0) (k := 0) rfl (by decide)) ⟨by decide, by decide⟩ rfl rfl (Nat.le_of_ble_eq_true rfl) ?_
      exact gq_iret (pc := 103) rfl dX11_voice_103 ⟨rfl, rfl⟩
    · exact absurd (show p_nt (p_in 1 0 3) = 0 by decide) h_14
set_option maxHeartbeats 400000 in
theorem c_voice_2_2 {e v : Int32} {j : Nat} (he : e = nI j) (hj : j < E) (hE : E ≤ 8) (e2 : r 2 = nI E) (ek : p_e r j 0 = 2) : ge_N X ge_SH YX11_voice 8 [.ref (ge_ad X.1 0), .int e, .int 2, .int v] (ge_k g 25 r x hb) (some (.int (v - p_e r j 1))) (ge_k (p_adds (ge_up g 1 1 0) 0 [12]) 25 r x hb) := by
  refine gq_ofB (l := [(0, .ref (ge_ad X.1 0)), (1, .int e), (2, .int 2), (3, .int v)]) (by decide) (Nat.le_of_ble_eq_true rfl) rfl ?_
  refine gq_aload_n (pc := 0) dX11_voice_0 rfl ?_
  refine gq_iload_n (pc := 1) dX11_voice_1 rfl ?_
  refine gq_rV1i (pc := 2) dX11_voice_2 cv_X11_126 sh_0 (c_noEye _) ⟨by decide, by decide⟩ rfl rfl (Nat.le_of_ble_eq_true rfl) ?_
  refine gq_if_ne (pc := 5) 17 dX11_voice_5 (by decide) (fun h_5 => ?_) (fun h_5 => ?_)
  · exact absurd (p_nt_0.mpr (p_in_E he hj (by omega) e2)) h_5
  · refine gq_iload_n (pc := 8) dX11_voice_8 rfl ?_
    refine gq_iconst (pc := 9) dX11_voice_9 kc_0 ?_
    refine gq_iconst (pc := 10) dX11_voice_10 kc_3 ?_
    refine gq_rS3i (pc := 11) dX11_voice_11 cs_X11_105 (c_outside _ _ _) ⟨by decide, by decide⟩ (Nat.le_of_ble_eq_true rfl) ?_
    refine gq_if_eq (pc := 14) 23 dX11_voice_14 (by decide) (fun h_14 => ?_) (fun h_14 => ?_)
    · refine gq_aload_n (pc := 23) dX11_voice_23 rfl ?_
      refine gq_getr (pc := 24) dX11_voice_24 fl_X11_14_11 sh_0 rfl ?_
      refine gq_iconst (pc := 27) dX11_voice_27 kc_0 ?_
      refine kq_puto (pw := 25) (pc := 28) (by decide) dX11_voice_28 fp_X11_182_7 sh_1 rfl ?_
      refine gq_aload_n (pc := 31) dX11_voice_31 rfl ?_
      refine gq_getr (pc := 32) dX11_voice_32 fl_X11_41_11 sh_0 rfl ?_
      refine gq_aload_n (pc := 35) dX11_voice_35 rfl ?_
      refine gq_getr (pc := 36) dX11_voice_36 fl_X11_60_11 sh_0 rfl ?_
      refine gq_getr (pc := 39) dX11_voice_39 fl_X11_129_10 sh_25 rfl ?_
      refine gq_iload_n (pc := 42) dX11_voice_42 rfl ?_
      refine kq_ald2 (pw := 25) (pc := 43) (by decide) dX11_voice_43 he (by first | decide | omega) ?_
      rw [ek]
      refine gq_aald (pc := 44) dX11_voice_44 sh_3 rfl kl_2 rfl (by decide) ?_
      refine gq_astore (pc := 45) (l' := [(4, _), (0, _), (1, _), (2, _), (3, _)]) dX11_voice_45 (by decide) rfl ?_
      refine gq_aload_n (pc := 47) dX11_voice_47 rfl ?_
      refine gq_getr (pc := 48) dX11_voice_48 fl_X11_60_11 sh_0 rfl ?_
      refine gq_getr (pc := 51) dX11_voice_51 fl_X11_132_10 sh_25 rfl ?_
      refine gq_iload_n (pc := 54) dX11_voice_54 rfl ?_
      refine kq_ald3 (pw := 25) (pc := 55) (by decide) dX11_voice_55 he (by first | decide | omega) ?_
      refine gq_istore (pc := 56) (l' := [(5, _), (4, _), (0, _), (1, _), (2, _), (3, _)]) dX11_voice_56 (by decide) rfl ?_
      refine gq_iload_n (pc := 58) dX11_voice_58 rfl ?_
      refine gq_tabI (pc := 59) (off := 45) 104 dX11_voice_59 (by decide) (by decide) (by decide) (by decide) ?_
      refine gq_aload (pc := 104) dX11_voice_104 rfl ?_
      refine gq_iload_n (pc := 106) dX11_voice_106 rfl ?_
      refine gq_iload (pc := 107) dX11_voice_107 rfl ?_
      refine gq_iload_n (pc := 109) dX11_voice_109 rfl ?_
      refine gq_rU3i (pc := 110) dX11_voice_110 cu_X11_287_2 sh_6 (c_X1_blinks_6 (g := ge_up g 1 1 0) (k := 0) rfl (by decide)) ⟨by decide, by decide⟩ rfl rfl (Nat.le_of_ble_eq_true rfl) ?_
      exact gq_iret (pc := 113) rfl dX11_voice_113 ⟨rfl, rfl⟩
    · exact absurd (show p_nt (p_in 2 0 3) = 0 by decide) h_14
set_option maxHeartbeats 400000 in
theorem c_voice_2_3 {e v : Int32} {j : Nat} (he : e = nI j) (hj : j < E) (hE : E ≤ 8) (e2 : r 2 = nI E) (ek : p_e r j 0 = 2) : ge_N X ge_SH YX11_voice 8 [.ref (ge_ad X.1 0), .int e, .int 3, .int v] (ge_k g 25 r x hb) (some (.int ((((v + e) * 2) - (1 - p_e r j 1)) ^^^ (v - p_e r j 1)))) (ge_k (p_adds (ge_up g 1 1 0) 0 [13, 30, 11, 10, 12, 12]) 25 r x hb) := by
  refine gq_ofB (l := [(0, .ref (ge_ad X.1 0)), (1, .int e), (2, .int 3), (3, .int v)]) (by decide) (Nat.le_of_ble_eq_true rfl) rfl ?_
  refine gq_aload_n (pc := 0) dX11_voice_0 rfl ?_
  refine gq_iload_n (pc := 1) dX11_voice_1 rfl ?_
  refine gq_rV1i (pc := 2) dX11_voice_2 cv_X11_126 sh_0 (c_noEye _) ⟨by decide, by decide⟩ rfl rfl (Nat.le_of_ble_eq_true rfl) ?_
  refine gq_if_ne (pc := 5) 17 dX11_voice_5 (by decide) (fun h_5 => ?_) (fun h_5 => ?_)
  · exact absurd (p_nt_0.mpr (p_in_E he hj (by omega) e2)) h_5
  · refine gq_iload_n (pc := 8) dX11_voice_8 rfl ?_
    refine gq_iconst (pc := 9) dX11_voice_9 kc_0 ?_
    refine gq_iconst (pc := 10) dX11_voice_10 kc_3 ?_
    refine gq_rS3i (pc := 11) dX11_voice_11 cs_X11_105 (c_outside _ _ _) ⟨by decide, by decide⟩ (Nat.le_of_ble_eq_true rfl) ?_
    refine gq_if_eq (pc := 14) 23 dX11_voice_14 (by decide) (fun h_14 => ?_) (fun h_14 => ?_)
    · refine gq_aload_n (pc := 23) dX11_voice_23 rfl ?_
      refine gq_getr (pc := 24) dX11_voice_24 fl_X11_14_11 sh_0 rfl ?_
      refine gq_iconst (pc := 27) dX11_voice_27 kc_0 ?_
      refine kq_puto (pw := 25) (pc := 28) (by decide) dX11_voice_28 fp_X11_182_7 sh_1 rfl ?_
      refine gq_aload_n (pc := 31) dX11_voice_31 rfl ?_
      refine gq_getr (pc := 32) dX11_voice_32 fl_X11_41_11 sh_0 rfl ?_
      refine gq_aload_n (pc := 35) dX11_voice_35 rfl ?_
      refine gq_getr (pc := 36) dX11_voice_36 fl_X11_60_11 sh_0 rfl ?_
      refine gq_getr (pc := 39) dX11_voice_39 fl_X11_129_10 sh_25 rfl ?_
      refine gq_iload_n (pc := 42) dX11_voice_42 rfl ?_
      refine kq_ald2 (pw := 25) (pc := 43) (by decide) dX11_voice_43 he (by first | decide | omega) ?_
      rw [ek]
      refine gq_aald (pc := 44) dX11_voice_44 sh_3 rfl kl_2 rfl (by decide) ?_
      refine gq_astore (pc := 45) (l' := [(4, _), (0, _), (1, _), (2, _), (3, _)]) dX11_voice_45 (by decide) rfl ?_
      refine gq_aload_n (pc := 47) dX11_voice_47 rfl ?_
      refine gq_getr (pc := 48) dX11_voice_48 fl_X11_60_11 sh_0 rfl ?_
      refine gq_getr (pc := 51) dX11_voice_51 fl_X11_132_10 sh_25 rfl ?_
      refine gq_iload_n (pc := 54) dX11_voice_54 rfl ?_
      refine kq_ald3 (pw := 25) (pc := 55) (by decide) dX11_voice_55 he (by first | decide | omega) ?_
      refine gq_istore (pc := 56) (l' := [(5, _), (4, _), (0, _), (1, _), (2, _), (3, _)]) dX11_voice_56 (by decide) rfl ?_
      refine gq_iload_n (pc := 58) dX11_voice_58 rfl ?_
      refine gq_tabO (pc := 59) 114 dX11_voice_59 (by decide) (by decide) ?_
      refine gq_aload (pc := 114) dX11_voice_114 rfl ?_
      refine gq_iload_n (pc := 116) dX11_voice_116 rfl ?_
      refine gq_iload (pc := 117) dX11_voice_117 rfl ?_
      refine gq_iload_n (pc := 119) dX11_voice_119 rfl ?_
      refine gq_rU3i (pc := 120) dX11_voice_120 cu_X11_290_2 sh_6 (c_X1_tells_6 (g := ge_up g 1 1 0) (k := 0) rfl (by decide)) ⟨by decide, by decide⟩ rfl rfl (Nat.le_of_ble_eq_true rfl) ?_
      exact gq_iret (pc := 123) rfl dX11_voice_123 ⟨rfl, rfl⟩
    · exact absurd (show p_nt (p_in 3 0 3) = 0 by decide) h_14
set_option maxHeartbeats 400000 in
theorem c_voice_3_0 {e v : Int32} {j : Nat} (he : e = nI j) (hj : j < E) (hE : E ≤ 8) (e2 : r 2 = nI E) (ek : p_e r j 0 = 3) : ge_N X ge_SH YX11_voice 8 [.ref (ge_ad X.1 0), .int e, .int 0, .int v] (ge_k g 25 r x hb) (some (.int (v + e))) (ge_k (p_adds (ge_up g 1 1 0) 0 [10]) 25 r x hb) := by
  refine gq_ofB (l := [(0, .ref (ge_ad X.1 0)), (1, .int e), (2, .int 0), (3, .int v)]) (by decide) (Nat.le_of_ble_eq_true rfl) rfl ?_
  refine gq_aload_n (pc := 0) dX11_voice_0 rfl ?_
  refine gq_iload_n (pc := 1) dX11_voice_1 rfl ?_
  refine gq_rV1i (pc := 2) dX11_voice_2 cv_X11_126 sh_0 (c_noEye _) ⟨by decide, by decide⟩ rfl rfl (Nat.le_of_ble_eq_true rfl) ?_
  refine gq_if_ne (pc := 5) 17 dX11_voice_5 (by decide) (fun h_5 => ?_) (fun h_5 => ?_)
  · exact absurd (p_nt_0.mpr (p_in_E he hj (by omega) e2)) h_5
  · refine gq_iload_n (pc := 8) dX11_voice_8 rfl ?_
    refine gq_iconst (pc := 9) dX11_voice_9 kc_0 ?_
    refine gq_iconst (pc := 10) dX11_voice_10 kc_3 ?_
    refine gq_rS3i (pc := 11) dX11_voice_11 cs_X11_105 (c_outside _ _ _) ⟨by decide, by decide⟩ (Nat.le_of_ble_eq_true rfl) ?_
    refine gq_if_eq (pc := 14) 23 dX11_voice_14 (by decide) (fun h_14 => ?_) (fun h_14 => ?_)
    · refine gq_aload_n (pc := 23) dX11_voice_23 rfl ?_
      refine gq_getr (pc := 24) dX11_voice_24 fl_X11_14_11 sh_0 rfl ?_
      refine gq_iconst (pc := 27) dX11_voice_27 kc_0 ?_
      refine kq_puto (pw := 25) (pc := 28) (by decide) dX11_voice_28 fp_X11_182_7 sh_1 rfl ?_
      refine gq_aload_n (pc := 31) dX11_voice_31 rfl ?_
      refine gq_getr (pc := 32) dX11_voice_32 fl_X11_41_11 sh_0 rfl ?_
      refine gq_aload_n (pc := 35) dX11_voice_35 rfl ?_
      refine gq_getr (pc := 36) dX11_voice_36 fl_X11_60_11 sh_0 rfl ?_
      refine gq_getr (pc := 39) dX11_voice_39 fl_X11_129_10 sh_25 rfl ?_
      refine gq_iload_n (pc := 42) dX11_voice_42 rfl ?_
      refine kq_ald2 (pw := 25) (pc := 43) (by decide) dX11_voice_43 he (by first | decide | omega) ?_
      rw [ek]
      refine gq_aald (pc := 44) dX11_voice_44 sh_3 rfl kl_3 rfl (by decide) ?_
      refine gq_astore (pc := 45) (l' := [(4, _), (0, _), (1, _), (2, _), (3, _)]) dX11_voice_45 (by decide) rfl ?_
      refine gq_aload_n (pc := 47) dX11_voice_47 rfl ?_
      refine gq_getr (pc := 48) dX11_voice_48 fl_X11_60_11 sh_0 rfl ?_
      refine gq_getr (pc := 51) dX11_voice_51 fl_X11_132_10 sh_25 rfl ?_
      refine gq_iload_n (pc := 54) dX11_voice_54 rfl ?_
      refine kq_ald3 (pw := 25) (pc := 55) (by decide) dX11_voice_55 he (by first | decide | omega) ?_
      refine gq_istore (pc := 56) (l' := [(5, _), (4, _), (0, _), (1, _), (2, _), (3, _)]) dX11_voice_56 (by decide) rfl ?_
      refine gq_iload_n (pc := 58) dX11_voice_58 rfl ?_
      refine gq_tabI (pc := 59) (off := 25) 84 dX11_voice_59 (by decide) (by decide) (by decide) (by decide) ?_
      refine gq_aload (pc := 84) dX11_voice_84 rfl ?_
      refine gq_iload_n (pc := 86) dX11_voice_86 rfl ?_
      refine gq_iload (pc := 87) dX11_voice_87 rfl ?_
      refine gq_iload_n (pc := 89) dX11_voice_89 rfl ?_
      refine gq_rU3i (pc := 90) dX11_voice_90 cu_X11_281_3 sh_7 (c_X1_sees_7 (g := ge_up g 1 1 0) (k := 0) rfl (by decide)) ⟨by decide, by decide⟩ rfl rfl (Nat.le_of_ble_eq_true rfl) ?_
      exact gq_iret (pc := 93) rfl dX11_voice_93 ⟨rfl, rfl⟩
    · exact absurd (show p_nt (p_in 0 0 3) = 0 by decide) h_14
set_option maxHeartbeats 400000 in
theorem c_voice_3_1 {e v : Int32} {j : Nat} (he : e = nI j) (hj : j < E) (hE : E ≤ 8) (e2 : r 2 = nI E) (ek : p_e r j 0 = 3) : ge_N X ge_SH YX11_voice 8 [.ref (ge_ad X.1 0), .int e, .int 1, .int v] (ge_k g 25 r x hb) (some (.int ((v + e) * 2))) (ge_k (p_adds (ge_up g 1 1 0) 0 [11, 10]) 25 r x hb) := by
  refine gq_ofB (l := [(0, .ref (ge_ad X.1 0)), (1, .int e), (2, .int 1), (3, .int v)]) (by decide) (Nat.le_of_ble_eq_true rfl) rfl ?_
  refine gq_aload_n (pc := 0) dX11_voice_0 rfl ?_
  refine gq_iload_n (pc := 1) dX11_voice_1 rfl ?_
  refine gq_rV1i (pc := 2) dX11_voice_2 cv_X11_126 sh_0 (c_noEye _) ⟨by decide, by decide⟩ rfl rfl (Nat.le_of_ble_eq_true rfl) ?_
  refine gq_if_ne (pc := 5) 17 dX11_voice_5 (by decide) (fun h_5 => ?_) (fun h_5 => ?_)
  · exact absurd (p_nt_0.mpr (p_in_E he hj (by omega) e2)) h_5
  · refine gq_iload_n (pc := 8) dX11_voice_8 rfl ?_
    refine gq_iconst (pc := 9) dX11_voice_9 kc_0 ?_
    refine gq_iconst (pc := 10) dX11_voice_10 kc_3 ?_
    refine gq_rS3i (pc := 11) dX11_voice_11 cs_X11_105 (c_outside _ _ _) ⟨by decide, by decide⟩ (Nat.le_of_ble_eq_true rfl) ?_
    refine gq_if_eq (pc := 14) 23 dX11_voice_14 (by decide) (fun h_14 => ?_) (fun h_14 => ?_)
    · refine gq_aload_n (pc := 23) dX11_voice_23 rfl ?_
      refine gq_getr (pc := 24) dX11_voice_24 fl_X11_14_11 sh_0 rfl ?_
      refine gq_iconst (pc := 27) dX11_voice_27 kc_0 ?_
      refine kq_puto (pw := 25) (pc := 28) (by decide) dX11_voice_28 fp_X11_182_7 sh_1 rfl ?_
      refine gq_aload_n (pc := 31) dX11_voice_31 rfl ?_
      refine gq_getr (pc := 32) dX11_voice_32 fl_X11_41_11 sh_0 rfl ?_
      refine gq_aload_n (pc := 35) dX11_voice_35 rfl ?_
      refine gq_getr (pc := 36) dX11_voice_36 fl_X11_60_11 sh_0 rfl ?_
      refine gq_getr (pc := 39) dX11_voice_39 fl_X11_129_10 sh_25 rfl ?_
      refine gq_iload_n (pc := 42) dX11_voice_42 rfl ?_
      refine kq_ald2 (pw := 25) (pc := 43) (by decide) dX11_voice_43 he (by first | decide | omega) ?_
      rw [ek]
      refine gq_aald (pc := 44) dX11_voice_44 sh_3 rfl kl_3 rfl (by decide) ?_
      refine gq_astore (pc := 45) (l' := [(4, _), (0, _), (1, _), (2, _), (3, _)]) dX11_voice_45 (by decide) rfl ?_
      refine gq_aload_n (pc := 47) dX11_voice_47 rfl ?_
      refine gq_getr (pc := 48) dX11_voice_48 fl_X11_60_11 sh_0 rfl ?_
      refine gq_getr (pc := 51) dX11_voice_51 fl_X11_132_10 sh_25 rfl ?_
      refine gq_iload_n (pc := 54) dX11_voice_54 rfl ?_
      refine kq_ald3 (pw := 25) (pc := 55) (by decide) dX11_voice_55 he (by first | decide | omega) ?_
      refine gq_istore (pc := 56) (l' := [(5, _), (4, _), (0, _), (1, _), (2, _), (3, _)]) dX11_voice_56 (by decide) rfl ?_
      refine gq_iload_n (pc := 58) dX11_voice_58 rfl ?_
      refine gq_tabI (pc := 59) (off := 35) 94 dX11_voice_59 (by decide) (by decide) (by decide) (by decide) ?_
      refine gq_aload (pc := 94) dX11_voice_94 rfl ?_
      refine gq_iload_n (pc := 96) dX11_voice_96 rfl ?_
      refine gq_iload (pc := 97) dX11_voice_97 rfl ?_
      refine gq_iload_n (pc := 99) dX11_voice_99 rfl ?_
      refine gq_rU3i (pc := 100) dX11_voice_100 cu_X11_284_3 sh_7 (c_X1_looks_7 (g := ge_up g 1 1 0) (k := 0) rfl (by decide)) ⟨by decide, by decide⟩ rfl rfl (Nat.le_of_ble_eq_true rfl) ?_
      exact gq_iret (pc := 103) rfl dX11_voice_103 ⟨rfl, rfl⟩
    · exact absurd (show p_nt (p_in 1 0 3) = 0 by decide) h_14
set_option maxHeartbeats 400000 in
theorem c_voice_3_2 {e v : Int32} {j : Nat} (he : e = nI j) (hj : j < E) (hE : E ≤ 8) (e2 : r 2 = nI E) (ek : p_e r j 0 = 3) : ge_N X ge_SH YX11_voice 8 [.ref (ge_ad X.1 0), .int e, .int 2, .int v] (ge_k g 25 r x hb) (some (.int (-(v - p_e r j 1)))) (ge_k (p_adds (ge_up g 1 1 0) 0 [40, 12]) 25 r x hb) := by
  refine gq_ofB (l := [(0, .ref (ge_ad X.1 0)), (1, .int e), (2, .int 2), (3, .int v)]) (by decide) (Nat.le_of_ble_eq_true rfl) rfl ?_
  refine gq_aload_n (pc := 0) dX11_voice_0 rfl ?_
  refine gq_iload_n (pc := 1) dX11_voice_1 rfl ?_
  refine gq_rV1i (pc := 2) dX11_voice_2 cv_X11_126 sh_0 (c_noEye _) ⟨by decide, by decide⟩ rfl rfl (Nat.le_of_ble_eq_true rfl) ?_
  refine gq_if_ne (pc := 5) 17 dX11_voice_5 (by decide) (fun h_5 => ?_) (fun h_5 => ?_)
  · exact absurd (p_nt_0.mpr (p_in_E he hj (by omega) e2)) h_5
  · refine gq_iload_n (pc := 8) dX11_voice_8 rfl ?_
    refine gq_iconst (pc := 9) dX11_voice_9 kc_0 ?_
    refine gq_iconst (pc := 10) dX11_voice_10 kc_3 ?_
    refine gq_rS3i (pc := 11) dX11_voice_11 cs_X11_105 (c_outside _ _ _) ⟨by decide, by decide⟩ (Nat.le_of_ble_eq_true rfl) ?_
    refine gq_if_eq (pc := 14) 23 dX11_voice_14 (by decide) (fun h_14 => ?_) (fun h_14 => ?_)
    · refine gq_aload_n (pc := 23) dX11_voice_23 rfl ?_
      refine gq_getr (pc := 24) dX11_voice_24 fl_X11_14_11 sh_0 rfl ?_
      refine gq_iconst (pc := 27) dX11_voice_27 kc_0 ?_
      refine kq_puto (pw := 25) (pc := 28) (by decide) dX11_voice_28 fp_X11_182_7 sh_1 rfl ?_
      refine gq_aload_n (pc := 31) dX11_voice_31 rfl ?_
      refine gq_getr (pc := 32) dX11_voice_32 fl_X11_41_11 sh_0 rfl ?_
      refine gq_aload_n (pc := 35) dX11_voice_35 rfl ?_
      refine gq_getr (pc := 36) dX11_voice_36 fl_X11_60_11 sh_0 rfl ?_
      refine gq_getr (pc := 39) dX11_voice_39 fl_X11_129_10 sh_25 rfl ?_
      refine gq_iload_n (pc := 42) dX11_voice_42 rfl ?_
      refine kq_ald2 (pw := 25) (pc := 43) (by decide) dX11_voice_43 he (by first | decide | omega) ?_
      rw [ek]
      refine gq_aald (pc := 44) dX11_voice_44 sh_3 rfl kl_3 rfl (by decide) ?_
      refine gq_astore (pc := 45) (l' := [(4, _), (0, _), (1, _), (2, _), (3, _)]) dX11_voice_45 (by decide) rfl ?_
      refine gq_aload_n (pc := 47) dX11_voice_47 rfl ?_
      refine gq_getr (pc := 48) dX11_voice_48 fl_X11_60_11 sh_0 rfl ?_
      refine gq_getr (pc := 51) dX11_voice_51 fl_X11_132_10 sh_25 rfl ?_
      refine gq_iload_n (pc := 54) dX11_voice_54 rfl ?_
      refine kq_ald3 (pw := 25) (pc := 55) (by decide) dX11_voice_55 he (by first | decide | omega) ?_
      refine gq_istore (pc := 56) (l' := [(5, _), (4, _), (0, _), (1, _), (2, _), (3, _)]) dX11_voice_56 (by decide) rfl ?_
      refine gq_iload_n (pc := 58) dX11_voice_58 rfl ?_
      refine gq_tabI (pc := 59) (off := 45) 104 dX11_voice_59 (by decide) (by decide) (by decide) (by decide) ?_
      refine gq_aload (pc := 104) dX11_voice_104 rfl ?_
      refine gq_iload_n (pc := 106) dX11_voice_106 rfl ?_
      refine gq_iload (pc := 107) dX11_voice_107 rfl ?_
      refine gq_iload_n (pc := 109) dX11_voice_109 rfl ?_
      refine gq_rU3i (pc := 110) dX11_voice_110 cu_X11_287_3 sh_7 (c_X3_blinks_7 (g := ge_up g 1 1 0) (k := 0) rfl (by decide)) ⟨by decide, by decide⟩ rfl rfl (Nat.le_of_ble_eq_true rfl) ?_
      exact gq_iret (pc := 113) rfl dX11_voice_113 ⟨rfl, rfl⟩
    · exact absurd (show p_nt (p_in 2 0 3) = 0 by decide) h_14
set_option maxHeartbeats 400000 in
theorem c_voice_3_3 {e v : Int32} {j : Nat} (he : e = nI j) (hj : j < E) (hE : E ≤ 8) (e2 : r 2 = nI E) (ek : p_e r j 0 = 3) : ge_N X ge_SH YX11_voice 8 [.ref (ge_ad X.1 0), .int e, .int 3, .int v] (ge_k g 25 r x hb) (some (.int (((v + e) * 2) ^^^ (-(v - p_e r j 1))))) (ge_k (p_adds (ge_up g 1 1 0) 0 [13, 11, 10, 40, 12]) 25 r x hb) := by
  refine gq_ofB (l := [(0, .ref (ge_ad X.1 0)), (1, .int e), (2, .int 3), (3, .int v)]) (by decide) (Nat.le_of_ble_eq_true rfl) rfl ?_
  refine gq_aload_n (pc := 0) dX11_voice_0 rfl ?_
  refine gq_iload_n (pc := 1) dX11_voice_1 rfl ?_
  refine gq_rV1i (pc := 2) dX11_voice_2 cv_X11_126 sh_0 (c_noEye _) ⟨by decide, by decide⟩ rfl rfl (Nat.le_of_ble_eq_true rfl) ?_
  refine gq_if_ne (pc := 5) 17 dX11_voice_5 (by decide) (fun h_5 => ?_) (fun h_5 => ?_)
  · exact absurd (p_nt_0.mpr (p_in_E he hj (by omega) e2)) h_5
  · refine gq_iload_n (pc := 8) dX11_voice_8 rfl ?_
    refine gq_iconst (pc := 9) dX11_voice_9 kc_0 ?_
    refine gq_iconst (pc := 10) dX11_voice_10 kc_3 ?_
    refine gq_rS3i (pc := 11) dX11_voice_11 cs_X11_105 (c_outside _ _ _) ⟨by decide, by decide⟩ (Nat.le_of_ble_eq_true rfl) ?_
    refine gq_if_eq (pc := 14) 23 dX11_voice_14 (by decide) (fun h_14 => ?_) (fun h_14 => ?_)
    · refine gq_aload_n (pc := 23) dX11_voice_23 rfl ?_
      refine gq_getr (pc := 24) dX11_voice_24 fl_X11_14_11 sh_0 rfl ?_
      refine gq_iconst (pc := 27) dX11_voice_27 kc_0 ?_
      refine kq_puto (pw := 25) (pc := 28) (by decide) dX11_voice_28 fp_X11_182_7 sh_1 rfl ?_
      refine gq_aload_n (pc := 31) dX11_voice_31 rfl ?_
      refine gq_getr (pc := 32) dX11_voice_32 fl_X11_41_11 sh_0 rfl ?_
      refine gq_aload_n (pc := 35) dX11_voice_35 rfl ?_
      refine gq_getr (pc := 36) dX11_voice_36 fl_X11_60_11 sh_0 rfl ?_
      refine gq_getr (pc := 39) dX11_voice_39 fl_X11_129_10 sh_25 rfl ?_
      refine gq_iload_n (pc := 42) dX11_voice_42 rfl ?_
      refine kq_ald2 (pw := 25) (pc := 43) (by decide) dX11_voice_43 he (by first | decide | omega) ?_
      rw [ek]
      refine gq_aald (pc := 44) dX11_voice_44 sh_3 rfl kl_3 rfl (by decide) ?_
      refine gq_astore (pc := 45) (l' := [(4, _), (0, _), (1, _), (2, _), (3, _)]) dX11_voice_45 (by decide) rfl ?_
      refine gq_aload_n (pc := 47) dX11_voice_47 rfl ?_
      refine gq_getr (pc := 48) dX11_voice_48 fl_X11_60_11 sh_0 rfl ?_
      refine gq_getr (pc := 51) dX11_voice_51 fl_X11_132_10 sh_25 rfl ?_
      refine gq_iload_n (pc := 54) dX11_voice_54 rfl ?_
      refine kq_ald3 (pw := 25) (pc := 55) (by decide) dX11_voice_55 he (by first | decide | omega) ?_
      refine gq_istore (pc := 56) (l' := [(5, _), (4, _), (0, _), (1, _), (2, _), (3, _)]) dX11_voice_56 (by decide) rfl ?_
      refine gq_iload_n (pc := 58) dX11_voice_58 rfl ?_
      refine gq_tabO (pc := 59) 114 dX11_voice_59 (by decide) (by decide) ?_
      refine gq_aload (pc := 114) dX11_voice_114 rfl ?_
      refine gq_iload_n (pc := 116) dX11_voice_116 rfl ?_
      refine gq_iload (pc := 117) dX11_voice_117 rfl ?_
      refine gq_iload_n (pc := 119) dX11_voice_119 rfl ?_
      refine gq_rU3i (pc := 120) dX11_voice_120 cu_X11_290_3 sh_7 (c_X1_tells_7 (g := ge_up g 1 1 0) (k := 0) rfl (by decide)) ⟨by decide, by decide⟩ rfl rfl (Nat.le_of_ble_eq_true rfl) ?_
      exact gq_iret (pc := 123) rfl dX11_voice_123 ⟨rfl, rfl⟩
    · exact absurd (show p_nt (p_in 3 0 3) = 0 by decide) h_14
set_option maxHeartbeats 400000 in
theorem c_voice_4_0 {e v : Int32} {j : Nat} (he : e = nI j) (hj : j < E) (hE : E ≤ 8) (e2 : r 2 = nI E) (ek : p_e r j 0 = 4) : ge_N X ge_SH YX11_voice 8 [.ref (ge_ad X.1 0), .int e, .int 0, .int v] (ge_k g 25 r x hb) (some (.int ((v + e) * 3))) (ge_k (p_adds (ge_up g 1 1 0) 0 [20, 10]) 25 r x hb) := by
  refine gq_ofB (l := [(0, .ref (ge_ad X.1 0)), (1, .int e), (2, .int 0), (3, .int v)]) (by decide) (Nat.le_of_ble_eq_true rfl) rfl ?_
  refine gq_aload_n (pc := 0) dX11_voice_0 rfl ?_
  refine gq_iload_n (pc := 1) dX11_voice_1 rfl ?_
  refine gq_rV1i (pc := 2) dX11_voice_2 cv_X11_126 sh_0 (c_noEye _) ⟨by decide, by decide⟩ rfl rfl (Nat.le_of_ble_eq_true rfl) ?_
  refine gq_if_ne (pc := 5) 17 dX11_voice_5 (by decide) (fun h_5 => ?_) (fun h_5 => ?_)
  · exact absurd (p_nt_0.mpr (p_in_E he hj (by omega) e2)) h_5
  · refine gq_iload_n (pc := 8) dX11_voice_8 rfl ?_
    refine gq_iconst (pc := 9) dX11_voice_9 kc_0 ?_
    refine gq_iconst (pc := 10) dX11_voice_10 kc_3 ?_
    refine gq_rS3i (pc := 11) dX11_voice_11 cs_X11_105 (c_outside _ _ _) ⟨by decide, by decide⟩ (Nat.le_of_ble_eq_true rfl) ?_
    refine gq_if_eq (pc := 14) 23 dX11_voice_14 (by decide) (fun h_14 => ?_) (fun h_14 => ?_)
    · refine gq_aload_n (pc := 23) dX11_voice_23 rfl ?_
      refine gq_getr (pc := 24) dX11_voice_24 fl_X11_14_11 sh_0 rfl ?_
      refine gq_iconst (pc := 27) dX11_voice_27 kc_0 ?_
      refine kq_puto (pw := 25) (pc := 28) (by decide) dX11_voice_28 fp_X11_182_7 sh_1 rfl ?_
      refine gq_aload_n (pc := 31) dX11_voice_31 rfl ?_
      refine gq_getr (pc := 32) dX11_voice_32 fl_X11_41_11 sh_0 rfl ?_
      refine gq_aload_n (pc := 35) dX11_voice_35 rfl ?_
      refine gq_getr (pc := 36) dX11_voice_36 fl_X11_60_11 sh_0 rfl ?_
      refine gq_getr (pc := 39) dX11_voice_39 fl_X11_129_10 sh_25 rfl ?_
      refine gq_iload_n (pc := 42) dX11_voice_42 rfl ?_
      refine kq_ald2 (pw := 25) (pc := 43) (by decide) dX11_voice_43 he (by first | decide | omega) ?_
      rw [ek]
      refine gq_aald (pc := 44) dX11_voice_44 sh_3 rfl kl_4 rfl (by decide) ?_
      refine gq_astore (pc := 45) (l' := [(4, _), (0, _), (1, _), (2, _), (3, _)]) dX11_voice_45 (by decide) rfl ?_
      refine gq_aload_n (pc := 47) dX11_voice_47 rfl ?_
      refine gq_getr (pc := 48) dX11_voice_48 fl_X11_60_11 sh_0 rfl ?_
      refine gq_getr (pc := 51) dX11_voice_51 fl_X11_132_10 sh_25 rfl ?_
      refine gq_iload_n (pc := 54) dX11_voice_54 rfl ?_
      refine kq_ald3 (pw := 25) (pc := 55) (by decide) dX11_voice_55 he (by first | decide | omega) ?_
      refine gq_istore (pc := 56) (l' := [(5, _), (4, _), (0, _), (1, _), (2, _), (3, _)]) dX11_voice_56 (by decide) rfl ?_
      refine gq_iload_n (pc := 58) dX11_voice_58 rfl ?_
      refine gq_tabI (pc := 59) (off := 25) 84 dX11_voice_59 (by decide) (by decide) (by decide) (by decide) ?_
      refine gq_aload (pc := 84) dX11_voice_84 rfl ?_
      refine gq_iload_n (pc := 86) dX11_voice_86 rfl ?_
      refine gq_iload (pc := 87) dX11_voice_87 rfl ?_
      refine gq_iload_n (pc := 89) dX11_voice_89 rfl ?_
      refine gq_rU3i (pc := 90) dX11_voice_90 cu_X11_281_0 sh_8 (c_X6_sees_8 (g := ge_up g 1 1 0) (k := 0) rfl (by decide)) ⟨by decide, by decide⟩ rfl rfl (Nat.le_of_ble_eq_true rfl) ?_
      exact gq_iret (pc := 93) rfl dX11_voice_93 ⟨rfl, rfl⟩
    · exact absurd (show p_nt (p_in 0 0 3) = 0 by decide) h_14
set_option maxHeartbeats 400000 in
theorem c_voice_4_1 {e v : Int32} {j : Nat} (he : e = nI j) (hj : j < E) (hE : E ≤ 8) (e2 : r 2 = nI E) (ek : p_e r j 0 = 4) : ge_N X ge_SH YX11_voice 8 [.ref (ge_ad X.1 0), .int e, .int 1, .int v] (ge_k g 25 r x hb) (some (.int (((v + e) * 3) * 2))) (ge_k (p_adds (ge_up g 1 1 0) 0 [11, 20, 10]) 25 r x hb) := by
  refine gq_ofB (l := [(0, .ref (ge_ad X.1 0)), (1, .int e), (2, .int 1), (3, .int v)]) (by decide) (Nat.le_of_ble_eq_true rfl) rfl ?_
  refine gq_aload_n (pc := 0) dX11_voice_0 rfl ?_
  refine gq_iload_n (pc := 1) dX11_voice_1 rfl ?_
  refine gq_rV1i (pc := 2) dX11_voice_2 cv_X11_126 sh_0 (c_noEye _) ⟨by decide, by decide⟩ rfl rfl (Nat.le_of_ble_eq_true rfl) ?_
  refine gq_if_ne (pc := 5) 17 dX11_voice_5 (by decide) (fun h_5 => ?_) (fun h_5 => ?_)
  · exact absurd (p_nt_0.mpr (p_in_E he hj (by omega) e2)) h_5
  · refine gq_iload_n (pc := 8) dX11_voice_8 rfl ?_
    refine gq_iconst (pc := 9) dX11_voice_9 kc_0 ?_
    refine gq_iconst (pc := 10) dX11_voice_10 kc_3 ?_
    refine gq_rS3i (pc := 11) dX11_voice_11 cs_X11_105 (c_outside _ _ _) ⟨by decide, by decide⟩ (Nat.le_of_ble_eq_true rfl) ?_
    refine gq_if_eq (pc := 14) 23 dX11_voice_14 (by decide) (fun h_14 => ?_) (fun h_14 => ?_)
    · refine gq_aload_n (pc := 23) dX11_voice_23 rfl ?_
      refine gq_getr (pc := 24) dX11_voice_24 fl_X11_14_11 sh_0 rfl ?_
      refine gq_iconst (pc := 27) dX11_voice_27 kc_0 ?_
      refine kq_puto (pw := 25) (pc := 28) (by decide) dX11_voice_28 fp_X11_182_7 sh_1 rfl ?_
      refine gq_aload_n (pc := 31) dX11_voice_31 rfl ?_
      refine gq_getr (pc := 32) dX11_voice_32 fl_X11_41_11 sh_0 rfl ?_
      refine gq_aload_n (pc := 35) dX11_voice_35 rfl ?_
      refine gq_getr (pc := 36) dX11_voice_36 fl_X11_60_11 sh_0 rfl ?_
      refine gq_getr (pc := 39) dX11_voice_39 fl_X11_129_10 sh_25 rfl ?_
      refine gq_iload_n (pc := 42) dX11_voice_42 rfl ?_
      refine kq_ald2 (pw := 25) (pc := 43) (by decide) dX11_voice_43 he (by first | decide | omega) ?_
      rw [ek]
      refine gq_aald (pc := 44) dX11_voice_44 sh_3 rfl kl_4 rfl (by decide) ?_
      refine gq_astore (pc := 45) (l' := [(4, _), (0, _), (1, _), (2, _), (3, _)]) dX11_voice_45 (by decide) rfl ?_
      refine gq_aload_n (pc := 47) dX11_voice_47 rfl ?_
      refine gq_getr (pc := 48) dX11_voice_48 fl_X11_60_11 sh_0 rfl ?_
      refine gq_getr (pc := 51) dX11_voice_51 fl_X11_132_10 sh_25 rfl ?_
      refine gq_iload_n (pc := 54) dX11_voice_54 rfl ?_
      refine kq_ald3 (pw := 25) (pc := 55) (by decide) dX11_voice_55 he (by first | decide | omega) ?_
      refine gq_istore (pc := 56) (l' := [(5, _), (4, _), (0, _), (1, _), (2, _), (3, _)]) dX11_voice_56 (by decide) rfl ?_
      refine gq_iload_n (pc := 58) dX11_voice_58 rfl ?_
      refine gq_tabI (pc := 59) (off := 35) 94 dX11_voice_59 (by decide) (by decide) (by decide) (by decide) ?_
      refine gq_aload (pc := 94) dX11_voice_94 rfl ?_
      refine gq_iload_n (pc := 96) dX11_voice_96 rfl ?_
      refine gq_iload (pc := 97) dX11_voice_97 rfl ?_
      refine gq_iload_n (pc := 99) dX11_voice_99 rfl ?_
      refine gq_rU3i (pc := 100) dX11_voice_100 cu_X11_284_0 sh_8 (c_X1_looks_8 (g := ge_up g 1 1 0) (k := 0) rfl (by decide)) ⟨by decide, by decide⟩ rfl rfl (Nat.le_of_ble_eq_true rfl) ?_
      exact gq_iret (pc := 103) rfl dX11_voice_103 ⟨rfl, rfl⟩
    · exact absurd (show p_nt (p_in 1 0 3) = 0 by decide) h_14
set_option maxHeartbeats 400000 in
theorem c_voice_4_2 {e v : Int32} {j : Nat} (he : e = nI j) (hj : j < E) (hE : E ≤ 8) (e2 : r 2 = nI E) (ek : p_e r j 0 = 4) : ge_N X ge_SH YX11_voice 8 [.ref (ge_ad X.1 0), .int e, .int 2, .int v] (ge_k g 25 r x hb) (some (.int (v - p_e r j 1))) (ge_k (p_adds (ge_up g 1 1 0) 0 [12]) 25 r x hb) := by
  refine gq_ofB (l := [(0, .ref (ge_ad X.1 0)), (1, .int e), (2, .int 2), (3, .int v)]) (by decide) (Nat.le_of_ble_eq_true rfl) rfl ?_
  refine gq_aload_n (pc := 0) dX11_voice_0 rfl ?_
  refine gq_iload_n (pc := 1) dX11_voice_1 rfl ?_
  refine gq_rV1i (pc := 2) dX11_voice_2 cv_X11_126 sh_0 (c_noEye _) ⟨by decide, by decide⟩ rfl rfl (Nat.le_of_ble_eq_true rfl) ?_
  refine gq_if_ne (pc := 5) 17 dX11_voice_5 (by decide) (fun h_5 => ?_) (fun h_5 => ?_)
  · exact absurd (p_nt_0.mpr (p_in_E he hj (by omega) e2)) h_5
  · refine gq_iload_n (pc := 8) dX11_voice_8 rfl ?_
    refine gq_iconst (pc := 9) dX11_voice_9 kc_0 ?_
    refine gq_iconst (pc := 10) dX11_voice_10 kc_3 ?_
    refine gq_rS3i (pc := 11) dX11_voice_11 cs_X11_105 (c_outside _ _ _) ⟨by decide, by decide⟩ (Nat.le_of_ble_eq_true rfl) ?_
    refine gq_if_eq (pc := 14) 23 dX11_voice_14 (by decide) (fun h_14 => ?_) (fun h_14 => ?_)
    · refine gq_aload_n (pc := 23) dX11_voice_23 rfl ?_
      refine gq_getr (pc := 24) dX11_voice_24 fl_X11_14_11 sh_0 rfl ?_
      refine gq_iconst (pc := 27) dX11_voice_27 kc_0 ?_
      refine kq_puto (pw := 25) (pc := 28) (by decide) dX11_voice_28 fp_X11_182_7 sh_1 rfl ?_
      refine gq_aload_n (pc := 31) dX11_voice_31 rfl ?_
      refine gq_getr (pc := 32) dX11_voice_32 fl_X11_41_11 sh_0 rfl ?_
      refine gq_aload_n (pc := 35) dX11_voice_35 rfl ?_
      refine gq_getr (pc := 36) dX11_voice_36 fl_X11_60_11 sh_0 rfl ?_
      refine gq_getr (pc := 39) dX11_voice_39 fl_X11_129_10 sh_25 rfl ?_
      refine gq_iload_n (pc := 42) dX11_voice_42 rfl ?_
      refine kq_ald2 (pw := 25) (pc := 43) (by decide) dX11_voice_43 he (by first | decide | omega) ?_
      rw [ek]
      refine gq_aald (pc := 44) dX11_voice_44 sh_3 rfl kl_4 rfl (by decide) ?_
      refine gq_astore (pc := 45) (l' := [(4, _), (0, _), (1, _), (2, _), (3, _)]) dX11_voice_45 (by decide) rfl ?_
      refine gq_aload_n (pc := 47) dX11_voice_47 rfl ?_
      refine gq_getr (pc := 48) dX11_voice_48 fl_X11_60_11 sh_0 rfl ?_
      refine gq_getr (pc := 51) dX11_voice_51 fl_X11_132_10 sh_25 rfl ?_
      refine gq_iload_n (pc := 54) dX11_voice_54 rfl ?_
      refine kq_ald3 (pw := 25) (pc := 55) (by decide) dX11_voice_55 he (by first | decide | omega) ?_
      refine gq_istore (pc := 56) (l' := [(5, _), (4, _), (0, _), (1, _), (2, _), (3, _)]) dX11_voice_56 (by decide) rfl ?_
      refine gq_iload_n (pc := 58) dX11_voice_58 rfl ?_
      refine gq_tabI (pc := 59) (off := 45) 104 dX11_voice_59 (by decide) (by decide) (by decide) (by decide) ?_
      refine gq_aload (pc := 104) dX11_voice_104 rfl ?_
      refine gq_iload_n (pc := 106) dX11_voice_106 rfl ?_
      refine gq_iload (pc := 107) dX11_voice_107 rfl ?_
      refine gq_iload_n (pc := 109) dX11_voice_109 rfl ?_
      refine gq_rU3i (pc := 110) dX11_voice_110 cu_X11_287_0 sh_8 (c_X1_blinks_8 (g := ge_up g 1 1 0) (k := 0) rfl (by decide)) ⟨by decide, by decide⟩ rfl rfl (Nat.le_of_ble_eq_true rfl) ?_
      exact gq_iret (pc := 113) rfl dX11_voice_113 ⟨rfl, rfl⟩
    · exact absurd (show p_nt (p_in 2 0 3) = 0 by decide) h_14
set_option maxHeartbeats 400000 in
theorem c_voice_4_3 {e v : Int32} {j : Nat} (he : e = nI j) (hj : j < E) (hE : E ≤ 8) (e2 : r 2 = nI E) (ek : p_e r j 0 = 4) : ge_N X ge_SH YX11_voice 8 [.ref (ge_ad X.1 0), .int e, .int 3, .int v] (ge_k g 25 r x hb) (some (.int (((((v + e) * 3) * 2) ^^^ (v - p_e r j 1)) - ((2 + e) * 3)))) (ge_k (p_adds (ge_up g 1 1 0) 0 [50, 13, 11, 20, 10, 12, 20, 10]) 25 r x hb) := by
  refine gq_ofB (l := [(0, .ref (ge_ad X.1 0)), (1, .int e), (2, .int 3), (3, .int v)]) (by decide) (Nat.le_of_ble_eq_true rfl) rfl ?_
  refine gq_aload_n (pc := 0) dX11_voice_0 rfl ?_
  refine gq_iload_n (pc := 1) dX11_voice_1 rfl ?_
  refine gq_rV1i (pc := 2) dX11_voice_2 cv_X11_126 sh_0 (c_noEye _) ⟨by decide, by decide⟩ rfl rfl (Nat.le_of_ble_eq_true rfl) ?_
  refine gq_if_ne (pc := 5) 17 dX11_voice_5 (by decide) (fun h_5 => ?_) (fun h_5 => ?_)
  · exact absurd (p_nt_0.mpr (p_in_E he hj (by omega) e2)) h_5
  · refine gq_iload_n (pc := 8) dX11_voice_8 rfl ?_
    refine gq_iconst (pc := 9) dX11_voice_9 kc_0 ?_
    refine gq_iconst (pc := 10) dX11_voice_10 kc_3 ?_
    refine gq_rS3i (pc := 11) dX11_voice_11 cs_X11_105 (c_outside _ _ _) ⟨by decide, by decide⟩ (Nat.le_of_ble_eq_true rfl) ?_
    refine gq_if_eq (pc := 14) 23 dX11_voice_14 (by decide) (fun h_14 => ?_) (fun h_14 => ?_)
    · refine gq_aload_n (pc := 23) dX11_voice_23 rfl ?_
      refine gq_getr (pc := 24) dX11_voice_24 fl_X11_14_11 sh_0 rfl ?_
      refine gq_iconst (pc := 27) dX11_voice_27 kc_0 ?_
      refine kq_puto (pw := 25) (pc := 28) (by decide) dX11_voice_28 fp_X11_182_7 sh_1 rfl ?_
      refine gq_aload_n (pc := 31) dX11_voice_31 rfl ?_
      refine gq_getr (pc := 32) dX11_voice_32 fl_X11_41_11 sh_0 rfl ?_
      refine gq_aload_n (pc := 35) dX11_voice_35 rfl ?_
      refine gq_getr (pc := 36) dX11_voice_36 fl_X11_60_11 sh_0 rfl ?_
      refine gq_getr (pc := 39) dX11_voice_39 fl_X11_129_10 sh_25 rfl ?_
      refine gq_iload_n (pc := 42) dX11_voice_42 rfl ?_
      refine kq_ald2 (pw := 25) (pc := 43) (by decide) dX11_voice_43 he (by first | decide | omega) ?_
      rw [ek]
      refine gq_aald (pc := 44) dX11_voice_44 sh_3 rfl kl_4 rfl (by decide) ?_
      refine gq_astore (pc := 45) (l' := [(4, _), (0, _), (1, _), (2, _), (3, _)]) dX11_voice_45 (by decide) rfl ?_
      refine gq_aload_n (pc := 47) dX11_voice_47 rfl ?_
      refine gq_getr (pc := 48) dX11_voice_48 fl_X11_60_11 sh_0 rfl ?_
      refine gq_getr (pc := 51) dX11_voice_51 fl_X11_132_10 sh_25 rfl ?_
      refine gq_iload_n (pc := 54) dX11_voice_54 rfl ?_
      refine kq_ald3 (pw := 25) (pc := 55) (by decide) dX11_voice_55 he (by first | decide | omega) ?_
      refine gq_istore (pc := 56) (l' := [(5, _), (4, _), (0, _), (1, _), (2, _), (3, _)]) dX11_voice_56 (by decide) rfl ?_
      refine gq_iload_n (pc := 58) dX11_voice_58 rfl ?_
      refine gq_tabO (pc := 59) 114 dX11_voice_59 (by decide) (by decide) ?_
      refine gq_aload (pc := 114) dX11_voice_114 rfl ?_
      refine gq_iload_n (pc := 116) dX11_voice_116 rfl ?_
      refine gq_iload (pc := 117) dX11_voice_117 rfl ?_
      refine gq_iload_n (pc := 119) dX11_voice_119 rfl ?_
      refine gq_rU3i (pc := 120) dX11_voice_120 cu_X11_290_0 sh_8 (c_X0_tells_8 (g := ge_up g 1 1 0) (k := 0) rfl (by decide)) ⟨by decide, by decide⟩ rfl rfl (Nat.le_of_ble_eq_true rfl) ?_
      exact gq_iret (pc := 123) rfl dX11_voice_123 ⟨rfl, rfl⟩
    · exact absurd (show p_nt (p_in 3 0 3) = 0 by decide) h_14
set_option maxHeartbeats 400000 in
theorem c_voice_5_0 {e v : Int32} {j : Nat} (he : e = nI j) (hj : j < E) (hE : E ≤ 8) (e2 : r 2 = nI E) (ek : p_e r j 0 = 5) : ge_N X ge_SH YX11_voice 8 [.ref (ge_ad X.1 0), .int e, .int 0, .int v] (ge_k g 25 r x hb) (some (.int (v + e))) (ge_k (p_adds (ge_up g 1 1 0) 0 [10]) 25 r x hb) := by
  refine gq_ofB (l := [(0, .ref (ge_ad X.1 0)), (1, .int e), (2, .int 0), (3, .int v)]) (by decide) (Nat.le_of_ble_eq_true rfl) rfl ?_
  refine gq_aload_n (pc := 0) dX11_voice_0 rfl ?_
  refine gq_iload_n (pc := 1) dX11_voice_1 rfl ?_
  refine gq_rV1i (pc := 2) dX11_voice_2 cv_X11_126 sh_0 (c_noEye _) ⟨by decide, by decide⟩ rfl rfl (Nat.le_of_ble_eq_true rfl) ?_
  refine gq_if_ne (pc := 5) 17 dX11_voice_5 (by decide) (fun h_5 => ?_) (fun h_5 => ?_)
  · exact absurd (p_nt_0.mpr (p_in_E he hj (by omega) e2)) h_5
  · refine gq_iload_n (pc := 8) dX11_voice_8 rfl ?_
    refine gq_iconst (pc := 9) dX11_voice_9 kc_0 ?_
    refine gq_iconst (pc := 10) dX11_voice_10 kc_3 ?_
    refine gq_rS3i (pc := 11) dX11_voice_11 cs_X11_105 (c_outside _ _ _) ⟨by decide, by decide⟩ (Nat.le_of_ble_eq_true rfl) ?_
    refine gq_if_eq (pc := 14) 23 dX11_voice_14 (by decide) (fun h_14 => ?_) (fun h_14 => ?_)
    · refine gq_aload_n (pc := 23) dX11_voice_23 rfl ?_
      refine gq_getr (pc := 24) dX11_voice_24 fl_X11_14_11 sh_0 rfl ?_
      refine gq_iconst (pc := 27) dX11_voice_27 kc_0 ?_
      refine kq_puto (pw := 25) (pc := 28) (by decide) dX11_voice_28 fp_X11_182_7 sh_1 rfl ?_
      refine gq_aload_n (pc := 31) dX11_voice_31 rfl ?_
      refine gq_getr (pc := 32) dX11_voice_32 fl_X11_41_11 sh_0 rfl ?_
      refine gq_aload_n (pc := 35) dX11_voice_35 rfl ?_
      refine gq_getr (pc := 36) dX11_voice_36 fl_X11_60_11 sh_0 rfl ?_
      refine gq_getr (pc := 39) dX11_voice_39 fl_X11_129_10 sh_25 rfl ?_
      refine gq_iload_n (pc := 42) dX11_voice_42 rfl ?_
      refine kq_ald2 (pw := 25) (pc := 43) (by decide) dX11_voice_43 he (by first | decide | omega) ?_
      rw [ek]
      refine gq_aald (pc := 44) dX11_voice_44 sh_3 rfl kl_5 rfl (by decide) ?_
      refine gq_astore (pc := 45) (l' := [(4, _), (0, _), (1, _), (2, _), (3, _)]) dX11_voice_45 (by decide) rfl ?_
      refine gq_aload_n (pc := 47) dX11_voice_47 rfl ?_
      refine gq_getr (pc := 48) dX11_voice_48 fl_X11_60_11 sh_0 rfl ?_
      refine gq_getr (pc := 51) dX11_voice_51 fl_X11_132_10 sh_25 rfl ?_
      refine gq_iload_n (pc := 54) dX11_voice_54 rfl ?_
      refine kq_ald3 (pw := 25) (pc := 55) (by decide) dX11_voice_55 he (by first | decide | omega) ?_
      refine gq_istore (pc := 56) (l' := [(5, _), (4, _), (0, _), (1, _), (2, _), (3, _)]) dX11_voice_56 (by decide) rfl ?_
      refine gq_iload_n (pc := 58) dX11_voice_58 rfl ?_
      refine gq_tabI (pc := 59) (off := 25) 84 dX11_voice_59 (by decide) (by decide) (by decide) (by decide) ?_
      refine gq_aload (pc := 84) dX11_voice_84 rfl ?_
      refine gq_iload_n (pc := 86) dX11_voice_86 rfl ?_
      refine gq_iload (pc := 87) dX11_voice_87 rfl ?_
      refine gq_iload_n (pc := 89) dX11_voice_89 rfl ?_
      refine gq_rU3i (pc := 90) dX11_voice_90 cu_X11_281_8 sh_9 (c_X1_sees_9 (g := ge_up g 1 1 0) (k := 0) rfl (by decide)) ⟨by decide, by decide⟩ rfl rfl (Nat.le_of_ble_eq_true rfl) ?_
      exact gq_iret (pc := 93) rfl dX11_voice_93 ⟨rfl, rfl⟩
    · exact absurd (show p_nt (p_in 0 0 3) = 0 by decide) h_14
set_option maxHeartbeats 400000 in
theorem c_voice_5_1 {e v : Int32} {j : Nat} (he : e = nI j) (hj : j < E) (hE : E ≤ 8) (e2 : r 2 = nI E) (ek : p_e r j 0 = 5) : ge_N X ge_SH YX11_voice 8 [.ref (ge_ad X.1 0), .int e, .int 1, .int v] (ge_k g 25 r x hb) (some (.int ((((v + 1) + e) * 2) - (1 - p_e r j 1)))) (ge_k (p_adds (ge_up g 1 1 0) 0 [60, 30, 11, 10, 12]) 25 r x hb) := by
  refine gq_ofB (l := [(0, .ref (ge_ad X.1 0)), (1, .int e), (2, .int 1), (3, .int v)]) (by decide) (Nat.le_of_ble_eq_true rfl) rfl ?_
  refine gq_aload_n (pc := 0) dX11_voice_0 rfl ?_
  refine gq_iload_n (pc := 1) dX11_voice_1 rfl ?_
  refine gq_rV1i (pc := 2) dX11_voice_2 cv_X11_126 sh_0 (c_noEye _) ⟨by decide, by decide⟩ rfl rfl (Nat.le_of_ble_eq_true rfl) ?_
  refine gq_if_ne (pc := 5) 17 dX11_voice_5 (by decide) (fun h_5 => ?_) (fun h_5 => ?_)
  · exact absurd (p_nt_0.mpr (p_in_E he hj (by omega) e2)) h_5
  · refine gq_iload_n (pc := 8) dX11_voice_8 rfl ?_
    refine gq_iconst (pc := 9) dX11_voice_9 kc_0 ?_
    refine gq_iconst (pc := 10) dX11_voice_10 kc_3 ?_
    refine gq_rS3i (pc := 11) dX11_voice_11 cs_X11_105 (c_outside _ _ _) ⟨by decide, by decide⟩ (Nat.le_of_ble_eq_true rfl) ?_
    refine gq_if_eq (pc := 14) 23 dX11_voice_14 (by decide) (fun h_14 => ?_) (fun h_14 => ?_)
    · refine gq_aload_n (pc := 23) dX11_voice_23 rfl ?_
      refine gq_getr (pc := 24) dX11_voice_24 fl_X11_14_11 sh_0 rfl ?_
      refine gq_iconst (pc := 27) dX11_voice_27 kc_0 ?_
      refine kq_puto (pw := 25) (pc := 28) (by decide) dX11_voice_28 fp_X11_182_7 sh_1 rfl ?_
      refine gq_aload_n (pc := 31) dX11_voice_31 rfl ?_
      refine gq_getr (pc := 32) dX11_voice_32 fl_X11_41_11 sh_0 rfl ?_
      refine gq_aload_n (pc := 35) dX11_voice_35 rfl ?_
      refine gq_getr (pc := 36) dX11_voice_36 fl_X11_60_11 sh_0 rfl ?_
      refine gq_getr (pc := 39) dX11_voice_39 fl_X11_129_10 sh_25 rfl ?_
      refine gq_iload_n (pc := 42) dX11_voice_42 rfl ?_
      refine kq_ald2 (pw := 25) (pc := 43) (by decide) dX11_voice_43 he (by first | decide | omega) ?_
      rw [ek]
      refine gq_aald (pc := 44) dX11_voice_44 sh_3 rfl kl_5 rfl (by decide) ?_
      refine gq_astore (pc := 45) (l' := [(4, _), (0, _), (1, _), (2, _), (3, _)]) dX11_voice_45 (by decide) rfl ?_
      refine gq_aload_n (pc := 47) dX11_voice_47 rfl ?_
      refine gq_getr (pc := 48) dX11_voice_48 fl_X11_60_11 sh_0 rfl ?_
      refine gq_getr (pc := 51) dX11_voice_51 fl_X11_132_10 sh_25 rfl ?_
      refine gq_iload_n (pc := 54) dX11_voice_54 rfl ?_
      refine kq_ald3 (pw := 25) (pc := 55) (by decide) dX11_voice_55 he (by first | decide | omega) ?_
      refine gq_istore (pc := 56) (l' := [(5, _), (4, _), (0, _), (1, _), (2, _), (3, _)]) dX11_voice_56 (by decide) rfl ?_
      refine gq_iload_n (pc := 58) dX11_voice_58 rfl ?_
      refine gq_tabI (pc := 59) (off := 35) 94 dX11_voice_59 (by decide) (by decide) (by decide) (by decide) ?_
      refine gq_aload (pc := 94) dX11_voice_94 rfl ?_
      refine gq_iload_n (pc := 96) dX11_voice_96 rfl ?_
      refine gq_iload (pc := 97) dX11_voice_97 rfl ?_
      refine gq_iload_n (pc := 99) dX11_voice_99 rfl ?_
      refine gq_rU3i (pc := 100) dX11_voice_100 cu_X11_284_8 sh_9 (c_X8_looks_9 (g := ge_up g 1 1 0) (k := 0) rfl (by decide)) ⟨by decide, by decide⟩ rfl rfl (Nat.le_of_ble_eq_true rfl) ?_
      exact gq_iret (pc := 103) rfl dX11_voice_103 ⟨rfl, rfl⟩
    · exact absurd (show p_nt (p_in 1 0 3) = 0 by decide) h_14
set_option maxHeartbeats 400000 in
theorem c_voice_5_2 {e v : Int32} {j : Nat} (he : e = nI j) (hj : j < E) (hE : E ≤ 8) (e2 : r 2 = nI E) (ek : p_e r j 0 = 5) : ge_N X ge_SH YX11_voice 8 [.ref (ge_ad X.1 0), .int e, .int 2, .int v] (ge_k g 25 r x hb) (some (.int (v - p_e r j 1))) (ge_k (p_adds (ge_up g 1 1 0) 0 [12]) 25 r x hb) := by
  refine gq_ofB (l := [(0, .ref (ge_ad X.1 0)), (1, .int e), (2, .int 2), (3, .int v)]) (by decide) (Nat.le_of_ble_eq_true rfl) rfl ?_
  refine gq_aload_n (pc := 0) dX11_voice_0 rfl ?_
  refine gq_iload_n (pc := 1) dX11_voice_1 rfl ?_
  refine gq_rV1i (pc := 2) dX11_voice_2 cv_X11_126 sh_0 (c_noEye _) ⟨by decide, by decide⟩ rfl rfl (Nat.le_of_ble_eq_true rfl) ?_
  refine gq_if_ne (pc := 5) 17 dX11_voice_5 (by decide) (fun h_5 => ?_) (fun h_5 => ?_)
  · exact absurd (p_nt_0.mpr (p_in_E he hj (by omega) e2)) h_5
  · refine gq_iload_n (pc := 8) dX11_voice_8 rfl ?_
    refine gq_iconst (pc := 9) dX11_voice_9 kc_0 ?_
    refine gq_iconst (pc := 10) dX11_voice_10 kc_3 ?_
    refine gq_rS3i (pc := 11) dX11_voice_11 cs_X11_105 (c_outside _ _ _) ⟨by decide, by decide⟩ (Nat.le_of_ble_eq_true rfl) ?_
    refine gq_if_eq (pc := 14) 23 dX11_voice_14 (by decide) (fun h_14 => ?_) (fun h_14 => ?_)
    · refine gq_aload_n (pc := 23) dX11_voice_23 rfl ?_
      refine gq_getr (pc := 24) dX11_voice_24 fl_X11_14_11 sh_0 rfl ?_
      refine gq_iconst (pc := 27) dX11_voice_27 kc_0 ?_
      refine kq_puto (pw := 25) (pc := 28) (by decide) dX11_voice_28 fp_X11_182_7 sh_1 rfl ?_
      refine gq_aload_n (pc := 31) dX11_voice_31 rfl ?_
      refine gq_getr (pc := 32) dX11_voice_32 fl_X11_41_11 sh_0 rfl ?_
      refine gq_aload_n (pc := 35) dX11_voice_35 rfl ?_
      refine gq_getr (pc := 36) dX11_voice_36 fl_X11_60_11 sh_0 rfl ?_
      refine gq_getr (pc := 39) dX11_voice_39 fl_X11_129_10 sh_25 rfl ?_
      refine gq_iload_n (pc := 42) dX11_voice_42 rfl ?_
      refine kq_ald2 (pw := 25) (pc := 43) (by decide) dX11_voice_43 he (by first | decide | omega) ?_
      rw [ek]
      refine gq_aald (pc := 44) dX11_voice_44 sh_3 rfl kl_5 rfl (by decide) ?_
      refine gq_astore (pc := 45) (l' := [(4, _), (0, _), (1, _), (2, _), (3, _)]) dX11_voice_45 (by decide) rfl ?_
      refine gq_aload_n (pc := 47) dX11_voice_47 rfl ?_
      refine gq_getr (pc := 48) dX11_voice_48 fl_X11_60_11 sh_0 rfl ?_
      refine gq_getr (pc := 51) dX11_voice_51 fl_X11_132_10 sh_25 rfl ?_
      refine gq_iload_n (pc := 54) dX11_voice_54 rfl ?_
      refine kq_ald3 (pw := 25) (pc := 55) (by decide) dX11_voice_55 he (by first | decide | omega) ?_
      refine gq_istore (pc := 56) (l' := [(5, _), (4, _), (0, _), (1, _), (2, _), (3, _)]) dX11_voice_56 (by decide) rfl ?_
      refine gq_iload_n (pc := 58) dX11_voice_58 rfl ?_
      refine gq_tabI (pc := 59) (off := 45) 104 dX11_voice_59 (by decide) (by decide) (by decide) (by decide) ?_
      refine gq_aload (pc := 104) dX11_voice_104 rfl ?_
      refine gq_iload_n (pc := 106) dX11_voice_106 rfl ?_
      refine gq_iload (pc := 107) dX11_voice_107 rfl ?_
      refine gq_iload_n (pc := 109) dX11_voice_109 rfl ?_
      refine gq_rU3i (pc := 110) dX11_voice_110 cu_X11_287_8 sh_9 (c_X1_blinks_9 (g := ge_up g 1 1 0) (k := 0) rfl (by decide)) ⟨by decide, by decide⟩ rfl rfl (Nat.le_of_ble_eq_true rfl) ?_
      exact gq_iret (pc := 113) rfl dX11_voice_113 ⟨rfl, rfl⟩
    · exact absurd (show p_nt (p_in 2 0 3) = 0 by decide) h_14
set_option maxHeartbeats 400000 in
theorem c_voice_5_3 {e v : Int32} {j : Nat} (he : e = nI j) (hj : j < E) (hE : E ≤ 8) (e2 : r 2 = nI E) (ek : p_e r j 0 = 5) : ge_N X ge_SH YX11_voice 8 [.ref (ge_ad X.1 0), .int e, .int 3, .int v] (ge_k g 25 r x hb) (some (.int (((((v + 1) + e) * 2) - (1 - p_e r j 1)) ^^^ (v - p_e r j 1)))) (ge_k (p_adds (ge_up g 1 1 0) 0 [13, 60, 30, 11, 10, 12, 12]) 25 r x hb) := by
  refine gq_ofB (l := [(0, .ref (ge_ad X.1 0)), (1, .int e), (2, .int 3), (3, .int v)]) (by decide) (Nat.le_of_ble_eq_true rfl) rfl ?_
  refine gq_aload_n (pc := 0) dX11_voice_0 rfl ?_
  refine gq_iload_n (pc := 1) dX11_voice_1 rfl ?_
  refine gq_rV1i (pc := 2) dX11_voice_2 cv_X11_126 sh_0 (c_noEye _) ⟨by decide, by decide⟩ rfl rfl (Nat.le_of_ble_eq_true rfl) ?_
  refine gq_if_ne (pc := 5) 17 dX11_voice_5 (by decide) (fun h_5 => ?_) (fun h_5 => ?_)
  · exact absurd (p_nt_0.mpr (p_in_E he hj (by omega) e2)) h_5
  · refine gq_iload_n (pc := 8) dX11_voice_8 rfl ?_
    refine gq_iconst (pc := 9) dX11_voice_9 kc_0 ?_
    refine gq_iconst (pc := 10) dX11_voice_10 kc_3 ?_
    refine gq_rS3i (pc := 11) dX11_voice_11 cs_X11_105 (c_outside _ _ _) ⟨by decide, by decide⟩ (Nat.le_of_ble_eq_true rfl) ?_
    refine gq_if_eq (pc := 14) 23 dX11_voice_14 (by decide) (fun h_14 => ?_) (fun h_14 => ?_)
    · refine gq_aload_n (pc := 23) dX11_voice_23 rfl ?_
      refine gq_getr (pc := 24) dX11_voice_24 fl_X11_14_11 sh_0 rfl ?_
      refine gq_iconst (pc := 27) dX11_voice_27 kc_0 ?_
      refine kq_puto (pw := 25) (pc := 28) (by decide) dX11_voice_28 fp_X11_182_7 sh_1 rfl ?_
      refine gq_aload_n (pc := 31) dX11_voice_31 rfl ?_
      refine gq_getr (pc := 32) dX11_voice_32 fl_X11_41_11 sh_0 rfl ?_
      refine gq_aload_n (pc := 35) dX11_voice_35 rfl ?_
      refine gq_getr (pc := 36) dX11_voice_36 fl_X11_60_11 sh_0 rfl ?_
      refine gq_getr (pc := 39) dX11_voice_39 fl_X11_129_10 sh_25 rfl ?_
      refine gq_iload_n (pc := 42) dX11_voice_42 rfl ?_
      refine kq_ald2 (pw := 25) (pc := 43) (by decide) dX11_voice_43 he (by first | decide | omega) ?_
      rw [ek]
      refine gq_aald (pc := 44) dX11_voice_44 sh_3 rfl kl_5 rfl (by decide) ?_
      refine gq_astore (pc := 45) (l' := [(4, _), (0, _), (1, _), (2, _), (3, _)]) dX11_voice_45 (by decide) rfl ?_
      refine gq_aload_n (pc := 47) dX11_voice_47 rfl ?_
      refine gq_getr (pc := 48) dX11_voice_48 fl_X11_60_11 sh_0 rfl ?_
      refine gq_getr (pc := 51) dX11_voice_51 fl_X11_132_10 sh_25 rfl ?_
      refine gq_iload_n (pc := 54) dX11_voice_54 rfl ?_
      refine kq_ald3 (pw := 25) (pc := 55) (by decide) dX11_voice_55 he (by first | decide | omega) ?_
      refine gq_istore (pc := 56) (l' := [(5, _), (4, _), (0, _), (1, _), (2, _), (3, _)]) dX11_voice_56 (by decide) rfl ?_
      refine gq_iload_n (pc := 58) dX11_voice_58 rfl ?_
      refine gq_tabO (pc := 59) 114 dX11_voice_59 (by decide) (by decide) ?_
      refine gq_aload (pc := 114) dX11_voice_114 rfl ?_
      refine gq_iload_n (pc := 116) dX11_voice_116 rfl ?_
      refine gq_iload (pc := 117) dX11_voice_117 rfl ?_
      refine gq_iload_n (pc := 119) dX11_voice_119 rfl ?_
      refine gq_rU3i (pc := 120) dX11_voice_120 cu_X11_290_8 sh_9 (c_X1_tells_9 (g := ge_up g 1 1 0) (k := 0) rfl (by decide)) ⟨by decide, by decide⟩ rfl rfl (Nat.le_of_ble_eq_true rfl) ?_
      exact gq_iret (pc := 123) rfl dX11_voice_123 ⟨rfl, rfl⟩
    · exact absurd (show p_nt (p_in 3 0 3) = 0 by decide) h_14
set_option maxHeartbeats 400000 in
theorem c_voice_6_0 {e v : Int32} {j : Nat} (he : e = nI j) (hj : j < E) (hE : E ≤ 8) (e2 : r 2 = nI E) (ek : p_e r j 0 = 6) : ge_N X ge_SH YX11_voice 8 [.ref (ge_ad X.1 0), .int e, .int 0, .int v] (ge_k g 25 r x hb) (some (.int (v + e))) (ge_k (p_adds (ge_up g 1 1 0) 0 [10]) 25 r x hb) := by
  refine gq_ofB (l := [(0, .ref (ge_ad X.1 0)), (1, .int e), (2, .int 0), (3, .int v)]) (by decide) (Nat.le_of_ble_eq_true rfl) rfl ?_
  refine gq_aload_n (pc := 0) dX11_voice_0 rfl ?_
  refine gq_iload_n (pc := 1) dX11_voice_1 rfl ?_
  refine gq_rV1i (pc := 2) dX11_voice_2 cv_X11_126 sh_0 (c_noEye _) ⟨by decide, by decide⟩ rfl rfl (Nat.le_of_ble_eq_true rfl) ?_
  refine gq_if_ne (pc := 5) 17 dX11_voice_5 (by decide) (fun h_5 => ?_) (fun h_5 => ?_)
  · exact absurd (p_nt_0.mpr (p_in_E he hj (by omega) e2)) h_5
  · refine gq_iload_n (pc := 8) dX11_voice_8 rfl ?_
    refine gq_iconst (pc := 9) dX11_voice_9 kc_0 ?_
    refine gq_iconst (pc := 10) dX11_voice_10 kc_3 ?_
    refine gq_rS3i (pc := 11) dX11_voice_11 cs_X11_105 (c_outside _ _ _) ⟨by decide, by decide⟩ (Nat.le_of_ble_eq_true rfl) ?_
    refine gq_if_eq (pc := 14) 23 dX11_voice_14 (by decide) (fun h_14 => ?_) (fun h_14 => ?_)
    · refine gq_aload_n (pc := 23) dX11_voice_23 rfl ?_
      refine gq_getr (pc := 24) dX11_voice_24 fl_X11_14_11 sh_0 rfl ?_
      refine gq_iconst (pc := 27) dX11_voice_27 kc_0 ?_
      refine kq_puto (pw := 25) (pc := 28) (by decide) dX11_voice_28 fp_X11_182_7 sh_1 rfl ?_
      refine gq_aload_n (pc := 31) dX11_voice_31 rfl ?_
      refine gq_getr (pc := 32) dX11_voice_32 fl_X11_41_11 sh_0 rfl ?_
      refine gq_aload_n (pc := 35) dX11_voice_35 rfl ?_
      refine gq_getr (pc := 36) dX11_voice_36 fl_X11_60_11 sh_0 rfl ?_
      refine gq_getr (pc := 39) dX11_voice_39 fl_X11_129_10 sh_25 rfl ?_
      refine gq_iload_n (pc := 42) dX11_voice_42 rfl ?_
      refine kq_ald2 (pw := 25) (pc := 43) (by decide) dX11_voice_43 he (by first | decide | omega) ?_
      rw [ek]
      refine gq_aald (pc := 44) dX11_voice_44 sh_3 rfl kl_6 rfl (by decide) ?_
      refine gq_astore (pc := 45) (l' := [(4, _), (0, _), (1, _), (2, _), (3, _)]) dX11_voice_45 (by decide) rfl ?_
      refine gq_aload_n (pc := 47) dX11_voice_47 rfl ?_
      refine gq_getr (pc := 48) dX11_voice_48 fl_X11_60_11 sh_0 rfl ?_
      refine gq_getr (pc := 51) dX11_voice_51 fl_X11_132_10 sh_25 rfl ?_
      refine gq_iload_n (pc := 54) dX11_voice_54 rfl ?_
      refine kq_ald3 (pw := 25) (pc := 55) (by decide) dX11_voice_55 he (by first | decide | omega) ?_
      refine gq_istore (pc := 56) (l' := [(5, _), (4, _), (0, _), (1, _), (2, _), (3, _)]) dX11_voice_56 (by decide) rfl ?_
      refine gq_iload_n (pc := 58) dX11_voice_58 rfl ?_
      refine gq_tabI (pc := 59) (off := 25) 84 dX11_voice_59 (by decide) (by decide) (by decide) (by decide) ?_
      refine gq_aload (pc := 84) dX11_voice_84 rfl ?_
      refine gq_iload_n (pc := 86) dX11_voice_86 rfl ?_
      refine gq_iload (pc := 87) dX11_voice_87 rfl ?_
      refine gq_iload_n (pc := 89) dX11_voice_89 rfl ?_
      refine gq_rU3i (pc := 90) dX11_voice_90 cu_X11_281_5 sh_10 (c_X1_sees_10 (g := ge_up g 1 1 0) (k := 0) rfl (by decide)) ⟨by decide, by decide⟩ rfl rfl (Nat.le_of_ble_eq_true rfl) ?_
      exact gq_iret (pc := 93) rfl dX11_voice_93 ⟨rfl, rfl⟩
    · exact absurd (show p_nt (p_in 0 0 3) = 0 by decide) h_14
set_option maxHeartbeats 400000 in
theorem c_voice_6_1 {e v : Int32} {j : Nat} (he : e = nI j) (hj : j < E) (hE : E ≤ 8) (e2 : r 2 = nI E) (ek : p_e r j 0 = 6) : ge_N X ge_SH YX11_voice 8 [.ref (ge_ad X.1 0), .int e, .int 1, .int v] (ge_k g 25 r x hb) (some (.int ((v + e) * 2))) (ge_k (p_adds (ge_up g 1 1 0) 0 [11, 10]) 25 r x hb) := by
  refine gq_ofB (l := [(0, .ref (ge_ad X.1 0)), (1, .int e), (2, .int 1), (3, .int v)]) (by decide) (Nat.le_of_ble_eq_true rfl) rfl ?_
  refine gq_aload_n (pc := 0) dX11_voice_0 rfl ?_
  refine gq_iload_n (pc := 1) dX11_voice_1 rfl ?_
  refine gq_rV1i (pc := 2) dX11_voice_2 cv_X11_126 sh_0 (c_noEye _) ⟨by decide, by decide⟩ rfl rfl (Nat.le_of_ble_eq_true rfl) ?_
  refine gq_if_ne (pc := 5) 17 dX11_voice_5 (by decide) (fun h_5 => ?_) (fun h_5 => ?_)
  · exact absurd (p_nt_0.mpr (p_in_E he hj (by omega) e2)) h_5
  · refine gq_iload_n (pc := 8) dX11_voice_8 rfl ?_
    refine gq_iconst (pc := 9) dX11_voice_9 kc_0 ?_
    refine gq_iconst (pc := 10) dX11_voice_10 kc_3 ?_
    refine gq_rS3i (pc := 11) dX11_voice_11 cs_X11_105 (c_outside _ _ _) ⟨by decide, by decide⟩ (Nat.le_of_ble_eq_true rfl) ?_
    refine gq_if_eq (pc := 14) 23 dX11_voice_14 (by decide) (fun h_14 => ?_) (fun h_14 => ?_)
    · refine gq_aload_n (pc := 23) dX11_voice_23 rfl ?_
      refine gq_getr (pc := 24) dX11_voice_24 fl_X11_14_11 sh_0 rfl ?_
      refine gq_iconst (pc := 27) dX11_voice_27 kc_0 ?_
      refine kq_puto (pw := 25) (pc := 28) (by decide) dX11_voice_28 fp_X11_182_7 sh_1 rfl ?_
      refine gq_aload_n (pc := 31) dX11_voice_31 rfl ?_
      refine gq_getr (pc := 32) dX11_voice_32 fl_X11_41_11 sh_0 rfl ?_
      refine gq_aload_n (pc := 35) dX11_voice_35 rfl ?_
      refine gq_getr (pc := 36) dX11_voice_36 fl_X11_60_11 sh_0 rfl ?_
      refine gq_getr (pc := 39) dX11_voice_39 fl_X11_129_10 sh_25 rfl ?_
      refine gq_iload_n (pc := 42) dX11_voice_42 rfl ?_
      refine kq_ald2 (pw := 25) (pc := 43) (by decide) dX11_voice_43 he (by first | decide | omega) ?_
      rw [ek]
      refine gq_aald (pc := 44) dX11_voice_44 sh_3 rfl kl_6 rfl (by decide) ?_
      refine gq_astore (pc := 45) (l' := [(4, _), (0, _), (1, _), (2, _), (3, _)]) dX11_voice_45 (by decide) rfl ?_
      refine gq_aload_n (pc := 47) dX11_voice_47 rfl ?_
      refine gq_getr (pc := 48) dX11_voice_48 fl_X11_60_11 sh_0 rfl ?_
      refine gq_getr (pc := 51) dX11_voice_51 fl_X11_132_10 sh_25 rfl ?_
      refine gq_iload_n (pc := 54) dX11_voice_54 rfl ?_
      refine kq_ald3 (pw := 25) (pc := 55) (by decide) dX11_voice_55 he (by first | decide | omega) ?_
      refine gq_istore (pc := 56) (l' := [(5, _), (4, _), (0, _), (1, _), (2, _), (3, _)]) dX11_voice_56 (by decide) rfl ?_
      refine gq_iload_n (pc := 58) dX11_voice_58 rfl ?_
      refine gq_tabI (pc := 59) (off := 35) 94 dX11_voice_59 (by decide) (by decide) (by decide) (by decide) ?_
      refine gq_aload (pc := 94) dX11_voice_94 rfl ?_
      refine gq_iload_n (pc := 96) dX11_voice_96 rfl ?_
      refine gq_iload (pc := 97) dX11_voice_97 rfl ?_
      refine gq_iload_n (pc := 99) dX11_voice_99 rfl ?_
      refine gq_rU3i (pc := 100) dX11_voice_100 cu_X11_284_5 sh_10 (c_X1_looks_10 (g := ge_up g 1 1 0) (k := 0) rfl (by decide)) ⟨by decide, by decide⟩ rfl rfl (Nat.le_of_ble_eq_true rfl) ?_
      exact gq_iret (pc := 103) rfl dX11_voice_103 ⟨rfl, rfl⟩
    · exact absurd (show p_nt (p_in 1 0 3) = 0 by decide) h_14
set_option maxHeartbeats 400000 in
theorem c_voice_6_2 {e v : Int32} {j : Nat} (he : e = nI j) (hj : j < E) (hE : E ≤ 8) (e2 : r 2 = nI E) (ek : p_e r j 0 = 6) : ge_N X ge_SH YX11_voice 8 [.ref (ge_ad X.1 0), .int e, .int 2, .int v] (ge_k g 25 r x hb) (some (.int ((-(v - p_e r j 1)) ^^^ e))) (ge_k (p_adds (ge_up g 1 1 0) 0 [70, 40, 12]) 25 r x hb) := by
  refine gq_ofB (l := [(0, .ref (ge_ad X.1 0)), (1, .int e), (2, .int 2), (3, .int v)]) (by decide) (Nat.le_of_ble_eq_true rfl) rfl ?_
  refine gq_aload_n (pc := 0) dX11_voice_0 rfl ?_
  refine gq_iload_n (pc := 1) dX11_voice_1 rfl ?_
  refine gq_rV1i (pc := 2) dX11_voice_2 cv_X11_126 sh_0 (c_noEye _) ⟨by decide, by decide⟩ rfl rfl (Nat.le_of_ble_eq_true rfl) ?_
  refine gq_if_ne (pc := 5) 17 dX11_voice_5 (by decide) (fun h_5 => ?_) (fun h_5 => ?_)
  · exact absurd (p_nt_0.mpr (p_in_E he hj (by omega) e2)) h_5
  · refine gq_iload_n (pc := 8) dX11_voice_8 rfl ?_
    refine gq_iconst (pc := 9) dX11_voice_9 kc_0 ?_
    refine gq_iconst (pc := 10) dX11_voice_10 kc_3 ?_
    refine gq_rS3i (pc := 11) dX11_voice_11 cs_X11_105 (c_outside _ _ _) ⟨by decide, by decide⟩ (Nat.le_of_ble_eq_true rfl) ?_
    refine gq_if_eq (pc := 14) 23 dX11_voice_14 (by decide) (fun h_14 => ?_) (fun h_14 => ?_)
    · refine gq_aload_n (pc := 23) dX11_voice_23 rfl ?_
      refine gq_getr (pc := 24) dX11_voice_24 fl_X11_14_11 sh_0 rfl ?_
      refine gq_iconst (pc := 27) dX11_voice_27 kc_0 ?_
      refine kq_puto (pw := 25) (pc := 28) (by decide) dX11_voice_28 fp_X11_182_7 sh_1 rfl ?_
      refine gq_aload_n (pc := 31) dX11_voice_31 rfl ?_
      refine gq_getr (pc := 32) dX11_voice_32 fl_X11_41_11 sh_0 rfl ?_
      refine gq_aload_n (pc := 35) dX11_voice_35 rfl ?_
      refine gq_getr (pc := 36) dX11_voice_36 fl_X11_60_11 sh_0 rfl ?_
      refine gq_getr (pc := 39) dX11_voice_39 fl_X11_129_10 sh_25 rfl ?_
      refine gq_iload_n (pc := 42) dX11_voice_42 rfl ?_
      refine kq_ald2 (pw := 25) (pc := 43) (by decide) dX11_voice_43 he (by first | decide | omega) ?_
      rw [ek]
      refine gq_aald (pc := 44) dX11_voice_44 sh_3 rfl kl_6 rfl (by decide) ?_
      refine gq_astore (pc := 45) (l' := [(4, _), (0, _), (1, _), (2, _), (3, _)]) dX11_voice_45 (by decide) rfl ?_
      refine gq_aload_n (pc := 47) dX11_voice_47 rfl ?_
      refine gq_getr (pc := 48) dX11_voice_48 fl_X11_60_11 sh_0 rfl ?_
      refine gq_getr (pc := 51) dX11_voice_51 fl_X11_132_10 sh_25 rfl ?_
      refine gq_iload_n (pc := 54) dX11_voice_54 rfl ?_
      refine kq_ald3 (pw := 25) (pc := 55) (by decide) dX11_voice_55 he (by first | decide | omega) ?_
      refine gq_istore (pc := 56) (l' := [(5, _), (4, _), (0, _), (1, _), (2, _), (3, _)]) dX11_voice_56 (by decide) rfl ?_
      refine gq_iload_n (pc := 58) dX11_voice_58 rfl ?_
      refine gq_tabI (pc := 59) (off := 45) 104 dX11_voice_59 (by decide) (by decide) (by decide) (by decide) ?_
      refine gq_aload (pc := 104) dX11_voice_104 rfl ?_
      refine gq_iload_n (pc := 106) dX11_voice_106 rfl ?_
      refine gq_iload (pc := 107) dX11_voice_107 rfl ?_
      refine gq_iload_n (pc := 109) dX11_voice_109 rfl ?_
      refine gq_rU3i (pc := 110) dX11_voice_110 cu_X11_287_5 sh_10 (c_X5_blinks_10 (g := ge_up g 1 1 0) (k := 0) rfl (by decide)) ⟨by decide, by decide⟩ rfl rfl (Nat.le_of_ble_eq_true rfl) ?_
      exact gq_iret (pc := 113) rfl dX11_voice_113 ⟨rfl, rfl⟩
    · exact absurd (show p_nt (p_in 2 0 3) = 0 by decide) h_14
set_option maxHeartbeats 400000 in
theorem c_voice_6_3 {e v : Int32} {j : Nat} (he : e = nI j) (hj : j < E) (hE : E ≤ 8) (e2 : r 2 = nI E) (ek : p_e r j 0 = 6) : ge_N X ge_SH YX11_voice 8 [.ref (ge_ad X.1 0), .int e, .int 3, .int v] (ge_k g 25 r x hb) (some (.int (((v + e) * 2) - (((v + e) * 2) ^^^ ((-(v - p_e r j 1)) ^^^ e))))) (ge_k (p_adds (ge_up g 1 1 0) 0 [71, 11, 10, 13, 11, 10, 70, 40, 12]) 25 r x hb) := by
  refine gq_ofB (l := [(0, .ref (ge_ad X.1 0)), (1, .int e), (2, .int 3), (3, .int v)]) (by decide) (Nat.le_of_ble_eq_true rfl) rfl ?_
  refine gq_aload_n (pc := 0) dX11_voice_0 rfl ?_
  refine gq_iload_n (pc := 1) dX11_voice_1 rfl ?_
  refine gq_rV1i (pc := 2) dX11_voice_2 cv_X11_126 sh_0 (c_noEye _) ⟨by decide, by decide⟩ rfl rfl (Nat.le_of_ble_eq_true rfl) ?_
  refine gq_if_ne (pc := 5) 17 dX11_voice_5 (by decide) (fun h_5 => ?_) (fun h_5 => ?_)
  · exact absurd (p_nt_0.mpr (p_in_E he hj (by omega) e2)) h_5
  · refine gq_iload_n (pc := 8) dX11_voice_8 rfl ?_
    refine gq_iconst (pc := 9) dX11_voice_9 kc_0 ?_
    refine gq_iconst (pc := 10) dX11_voice_10 kc_3 ?_
    refine gq_rS3i (pc := 11) dX11_voice_11 cs_X11_105 (c_outside _ _ _) ⟨by decide, by decide⟩ (Nat.le_of_ble_eq_true rfl) ?_
    refine gq_if_eq (pc := 14) 23 dX11_voice_14 (by decide) (fun h_14 => ?_) (fun h_14 => ?_)
    · refine gq_aload_n (pc := 23) dX11_voice_23 rfl ?_
      refine gq_getr (pc := 24) dX11_voice_24 fl_X11_14_11 sh_0 rfl ?_
      refine gq_iconst (pc := 27) dX11_voice_27 kc_0 ?_
      refine kq_puto (pw := 25) (pc := 28) (by decide) dX11_voice_28 fp_X11_182_7 sh_1 rfl ?_
      refine gq_aload_n (pc := 31) dX11_voice_31 rfl ?_
      refine gq_getr (pc := 32) dX11_voice_32 fl_X11_41_11 sh_0 rfl ?_
      refine gq_aload_n (pc := 35) dX11_voice_35 rfl ?_
      refine gq_getr (pc := 36) dX11_voice_36 fl_X11_60_11 sh_0 rfl ?_
      refine gq_getr (pc := 39) dX11_voice_39 fl_X11_129_10 sh_25 rfl ?_
      refine gq_iload_n (pc := 42) dX11_voice_42 rfl ?_
      refine kq_ald2 (pw := 25) (pc := 43) (by decide) dX11_voice_43 he (by first | decide | omega) ?_
      rw [ek]
      refine gq_aald (pc := 44) dX11_voice_44 sh_3 rfl kl_6 rfl (by decide) ?_
      refine gq_astore (pc := 45) (l' := [(4, _), (0, _), (1, _), (2, _), (3, _)]) dX11_voice_45 (by decide) rfl ?_
      refine gq_aload_n (pc := 47) dX11_voice_47 rfl ?_
      refine gq_getr (pc := 48) dX11_voice_48 fl_X11_60_11 sh_0 rfl ?_
      refine gq_getr (pc := 51) dX11_voice_51 fl_X11_132_10 sh_25 rfl ?_
      refine gq_iload_n (pc := 54) dX11_voice_54 rfl ?_
      refine kq_ald3 (pw := 25) (pc := 55) (by decide) dX11_voice_55 he (by first | decide | omega) ?_
      refine gq_istore (pc := 56) (l' := [(5, _), (4, _), (0, _), (1, _), (2, _), (3, _)]) dX11_voice_56 (by decide) rfl ?_
      refine gq_iload_n (pc := 58) dX11_voice_58 rfl ?_
      refine gq_tabO (pc := 59) 114 dX11_voice_59 (by decide) (by decide) ?_
      refine gq_aload (pc := 114) dX11_voice_114 rfl ?_
      refine gq_iload_n (pc := 116) dX11_voice_116 rfl ?_
      refine gq_iload (pc := 117) dX11_voice_117 rfl ?_
      refine gq_iload_n (pc := 119) dX11_voice_119 rfl ?_
      refine gq_rU3i (pc := 120) dX11_voice_120 cu_X11_290_5 sh_10 (c_X5_tells_10 (g := ge_up g 1 1 0) (k := 0) rfl (by decide)) ⟨by decide, by decide⟩ rfl rfl (Nat.le_of_ble_eq_true rfl) ?_
      exact gq_iret (pc := 123) rfl dX11_voice_123 ⟨rfl, rfl⟩
    · exact absurd (show p_nt (p_in 3 0 3) = 0 by decide) h_14
set_option maxHeartbeats 400000 in
theorem c_voice_er {e a v : Int32} (h : p_in e 0 (r 2 - 1) = 0 ∨ p_in a 0 3 = 0) : ge_N X ge_SH YX11_voice 8 [.ref (ge_ad X.1 0), .int e, .int a, .int v] (ge_k g 25 r x hb) (some (.int (-1000000000 - 1))) (ge_k (ge_up g 75 1 (g 75 1 + 1)) 25 r x hb) := by
  refine gq_ofB (l := [(0, .ref (ge_ad X.1 0)), (1, .int e), (2, .int a), (3, .int v)]) (by decide) (Nat.le_of_ble_eq_true rfl) rfl ?_
  refine gq_aload_n (pc := 0) dX11_voice_0 rfl ?_
  refine gq_iload_n (pc := 1) dX11_voice_1 rfl ?_
  refine gq_rV1i (pc := 2) dX11_voice_2 cv_X11_126 sh_0 (c_noEye _) ⟨by decide, by decide⟩ rfl rfl (Nat.le_of_ble_eq_true rfl) ?_
  refine gq_if_ne (pc := 5) 17 dX11_voice_5 (by decide) (fun h_5 => ?_) (fun h_5 => ?_)
  · refine gq_aload_n (pc := 17) dX11_voice_17 rfl ?_
    refine gq_iconst (pc := 18) dX11_voice_18 kc_1 ?_
    refine gq_rV1i (pc := 19) dX11_voice_19 cv_X11_109 sh_0 (c_error kl_1 (by decide)) ⟨by decide, by decide⟩ rfl rfl (Nat.le_of_ble_eq_true rfl) ?_
    exact gq_iret (pc := 22) rfl dX11_voice_22 ⟨rfl, rfl⟩
  · refine gq_iload_n (pc := 8) dX11_voice_8 rfl ?_
    refine gq_iconst (pc := 9) dX11_voice_9 kc_0 ?_
    refine gq_iconst (pc := 10) dX11_voice_10 kc_3 ?_
    refine gq_rS3i (pc := 11) dX11_voice_11 cs_X11_105 (c_outside _ _ _) ⟨by decide, by decide⟩ (Nat.le_of_ble_eq_true rfl) ?_
    refine gq_if_eq (pc := 14) 23 dX11_voice_14 (by decide) (fun h_14 => ?_) (fun h_14 => ?_)
    · exact (h.elim (p_nt_0.mp h_5) (p_nt_0.mp h_14)).elim
    · refine gq_aload_n (pc := 17) dX11_voice_17 rfl ?_
      refine gq_iconst (pc := 18) dX11_voice_18 kc_1 ?_
      refine gq_rV1i (pc := 19) dX11_voice_19 cv_X11_109 sh_0 (c_error kl_1 (by decide)) ⟨by decide, by decide⟩ rfl rfl (Nat.le_of_ble_eq_true rfl) ?_
      exact gq_iret (pc := 22) rfl dX11_voice_22 ⟨rfl, rfl⟩
end V1
