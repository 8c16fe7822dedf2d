section T5
variable {X : ge_X} {g : ge_G} {r x hb r2 x2 hb2 f : Nat → Int32} {c V : Nat}
/-- an eye lent to a side -/
def p_lr (r : Nat → Int32) (e k : Nat) : Nat → Int32 := p_uo r (k / 2) (k % 2) (nI e)
def p_lb (r : Nat → Int32) (V n e k : Nat) : Int32 := nI (p_sb (p_hrs (p_lr r e k) n) V)
abbrev p_lc (r : Nat → Int32) (V e k : Nat) : Prop := p_sk r (nI e) (2 * V) 0 < 0 ∧ p_o r (k / 2) (k % 2) = -1
def p_lk (r : Nat → Int32) (V n e : Nat) (q : Int32 × Int32) : Nat → Int32 × Int32
  | 0 => q
  | k + 1 => if p_lc r V e k then (if (p_lk r V n e q k).2 < p_lb r V n e k then (nI (100 * e + 10 * (k / 2) + k % 2), p_lb r V n e k) else p_lk r V n e q k) else p_lk r V n e q k
def p_lo (r : Nat → Int32) (V n : Nat) : Nat → Int32 × Int32
  | 0 => (-1, -1)
  | e + 1 => p_lk r V n e (p_lo r V n e) (2 * V)
def gt_lk (r : Nat → Int32) (V n e : Nat) (g : ge_G) : Nat → ge_G
  | 0 => g
  | k + 1 => if p_lc r V e k then ge_t1 (gt_lk r V n e g k) (p_lr r e k) V n else gt_lk r V n e g k
def gt_lo (r : Nat → Int32) (V n : Nat) (g : ge_G) : Nat → ge_G
  | 0 => g
  | e + 1 => gt_lk r V n e (gt_lo r V n g e) (2 * V)
def p_lkf (r : Nat → Int32) (V n e : Nat) (f : Nat → Int32) : Nat → Nat → Int32
  | 0 => f
  | k + 1 => if p_lc r V e k then p_tb (p_lkf r V n e f k) (p_pt (p_lkf r V n e f k) (p_lr r e k) n) (p_pb (p_lkf r V n e f k) (p_lr r e k) n) else p_lkf r V n e f k
def p_lof (r : Nat → Int32) (V n : Nat) (f : Nat → Int32) : Nat → Nat → Int32
  | 0 => f
  | e + 1 => p_lkf r V n e (p_lof r V n f e) (2 * V)
theorem gt_lk_o {n e q : Nat} (h : q < 35 ∨ 44 < q) : ∀ k, gt_lk r V n e g k q = g q := by
  intro k
  induction k with
  | zero => rfl
  | succ k ih =>
    unfold gt_lk
    split
    · rw [ge_t1_o h, ih]
    · exact ih
theorem gt_lo_o {n q : Nat} (h : q < 35 ∨ 44 < q) : ∀ e, gt_lo r V n g e q = g q := by
  intro e
  induction e with
  | zero => rfl
  | succ e ih => show gt_lk r V n e (gt_lo r V n g e) (2 * V) q = g q; rw [gt_lk_o h, ih]
theorem p_tb_o {t b : Int32} {k : Nat} (h : k ≠ 15 ∧ k ≠ 16) : p_tb f t b k = f k := by unfold p_tb; rw [if_neg h.1, if_neg h.2]
theorem p_lkf_o {n e j : Nat} (h : j ≠ 15 ∧ j ≠ 16) : ∀ k, p_lkf r V n e f k j = f j := by
  intro k
  induction k with
  | zero => rfl
  | succ k ih =>
    unfold p_lkf
    split
    · rw [p_tb_o h, ih]
    · exact ih
theorem p_lof_o {n j : Nat} (h : j ≠ 15 ∧ j ≠ 16) : ∀ e, p_lof r V n f e j = f j := by
  intro e
  induction e with
  | zero => rfl
  | succ e ih => show p_lkf r V n e (p_lof r V n f e) (2 * V) j = f j; rw [p_lkf_o h, ih]
theorem p_lk_w {n e : Nat} {q : Int32 × Int32} (h : ¬ p_sk r (nI e) (2 * V) 0 < 0) : ∀ k, p_lk r V n e q k = q := by
  intro k
  induction k with
  | zero => rfl
  | succ k ih => unfold p_lk; rw [if_neg (fun z => h z.1), ih]
theorem p_lkf_w {n e : Nat} (h : ¬ p_sk r (nI e) (2 * V) 0 < 0) : ∀ k, p_lkf r V n e f k = f := by
  intro k
  induction k with
  | zero => rfl
  | succ k ih => unfold p_lkf; rw [if_neg (fun z => h z.1), ih]
/-- the two steps of a row of lendings -/
theorem p_lk_n {n e k : Nat} {q : Int32 × Int32} (h : ¬ p_lc r V e k) : p_lk r V n e q (k + 1) = p_lk r V n e q k := if_neg h
theorem p_lk_y {n e k : Nat} {q : Int32 × Int32} (h : p_lc r V e k) (h2 : (p_lk r V n e q k).2 < p_lb r V n e k) : p_lk r V n e q (k + 1) = (nI (100 * e + 10 * (k / 2) + k % 2), p_lb r V n e k) := (if_pos h).trans (if_pos h2)
theorem p_lk_m {n e k : Nat} {q : Int32 × Int32} (h : p_lc r V e k) (h2 : ¬ (p_lk r V n e q k).2 < p_lb r V n e k) : p_lk r V n e q (k + 1) = p_lk r V n e q k := (if_pos h).trans (if_neg h2)
theorem gt_lk_n {n e k : Nat} (h : ¬ p_lc r V e k) : gt_lk r V n e g (k + 1) = gt_lk r V n e g k := if_neg h
theorem gt_lk_y {n e k : Nat} (h : p_lc r V e k) : gt_lk r V n e g (k + 1) = ge_t1 (gt_lk r V n e g k) (p_lr r e k) V n := if_pos h
theorem p_lkf_n {n e k : Nat} (h : ¬ p_lc r V e k) : p_lkf r V n e f (k + 1) = p_lkf r V n e f k := if_neg h
theorem p_lkf_y {n e k : Nat} (h : p_lc r V e k) : p_lkf r V n e f (k + 1) = p_tb (p_lkf r V n e f k) (p_pt (p_lkf r V n e f k) (p_lr r e k) n) (p_pb (p_lkf r V n e f k) (p_lr r e k) n) := if_pos h
theorem p_lc_no {e : Nat} (hV : V ≤ 6) (h : p_sk r (nI e) (2 * V) 0 < 0) : ∀ w', w' < V → ∀ s', s' < 2 → ¬ p_o r w' s' = nI e := by
  intro w' hw' s' hs' hq
  have e0 : p_sk r (nI e) (2 * V) 0 = -1 := by
    rcases p_sk_in r (nI e) (2 * V) 0 with q | ⟨t, -, t2, t3, t4⟩
    · exact q
    · rw [t3] at h; exact absurd h (nI_pos (by omega))
  refine p_sk_no r (nI e) (2 * V) 0 (by omega) e0 (2 * w' + s') (by omega) (by omega) ?_
  rw [show (2 * w' + s') / 2 = w' by omega, show (2 * w' + s') % 2 = s' by omega]
  exact hq
theorem p_ok_lr {e k E : Nat} (h : p_ok g c V r) (e2 : r 2 = nI E) (hE : E ≤ 8) (he : e < E) (hk : k < 2 * V) (hc : p_sk r (nI e) (2 * V) 0 < 0) : p_ok g c V (p_lr r e k) :=
  p_ok_lent h e2 hE (by omega) (by omega) he (p_lc_no h.2.2.1 hc)
set_option maxHeartbeats 400000 in
theorem c_lent {n : Int32} {e k N : Nat} (h : p_ok g (c + N) V (p_lr r e k)) (hk : k < 2 * V) (hN : n = nI N) (hN2 : N ≤ 60) : ge_N X ge_SH YX11_thingsIfLent 6 [.ref (ge_ad X.1 0), .int (nI e), .int (nI k), .int n] (ge_k g 25 r x hb) (some (.int (p_lb r V N e k))) (ge_k (ge_t1 g (p_lr r e k) V N) 25 r x hb) := by
  have ho := p_ok_hrs (c := c) N h
  have hV := ho.2.2.1
  have hb1 := p_sb_in ho.1 hV
  refine gq_ofB (l := [(0, .ref (ge_ad X.1 0)), (1, .int (nI e)), (2, .int (nI k)), (3, .int n)]) (by decide) (Nat.le_of_ble_eq_true rfl) rfl ?_
  refine gq_aload_n (pc := 0) dX11_thingsIfLent_0 rfl ?_
  refine gq_getr (pc := 1) dX11_thingsIfLent_1 fl_X11_64_11 sh_0 rfl ?_
  refine gq_aload_n (pc := 4) dX11_thingsIfLent_4 rfl ?_
  refine gq_getr (pc := 5) dX11_thingsIfLent_5 fl_X11_60_11 sh_0 rfl ?_
  refine gq_rV1v (pc := 8) dX11_thingsIfLent_8 cv_X11_223 sh_35 c_cp ⟨by decide, by decide⟩ rfl rfl (Nat.le_of_ble_eq_true rfl) ?_
  refine gq_aload_n (pc := 11) dX11_thingsIfLent_11 rfl ?_
  refine gq_getr (pc := 12) dX11_thingsIfLent_12 fl_X11_64_11 sh_0 rfl ?_
  refine gq_getr (pc := 15) dX11_thingsIfLent_15 fl_X11_250_10 sh_35 rfl ?_
  refine gq_iload_n (pc := 18) dX11_thingsIfLent_18 rfl ?_
  refine gq_iload_n (pc := 19) dX11_thingsIfLent_19 rfl ?_
  refine kt_ast6 (pc := 20) dX11_thingsIfLent_20 (w := k / 2) (s := k % 2) (by rw [show 2 * (k / 2) + k % 2 = k by omega]) (by omega) (by omega) ?_
  refine gq_aload_n (pc := 21) dX11_thingsIfLent_21 rfl ?_
  refine gq_getr (pc := 22) dX11_thingsIfLent_22 fl_X11_64_11 sh_0 rfl ?_
  refine gq_iload_n (pc := 25) dX11_thingsIfLent_25 rfl ?_
  refine gq_rV1v (pc := 26) dX11_thingsIfLent_26 cv_X11_214 sh_35 (c_th (c := c) (V := V) hN (by omega) h rfl) ⟨by decide, by decide⟩ rfl rfl (Nat.le_of_ble_eq_true rfl) ?_
  refine gq_aload_n (pc := 29) dX11_thingsIfLent_29 rfl ?_
  refine gq_getr (pc := 30) dX11_thingsIfLent_30 fl_X11_64_11 sh_0 rfl ?_
  refine gq_rV0i (pc := 33) dX11_thingsIfLent_33 cv_X11_259 sh_35 (ge_sw (k_seenW_35 hV ho.2.1)) ⟨by decide, by decide⟩ rfl rfl (Nat.le_of_ble_eq_true rfl) ?_
  refine gq_rS1i (pc := 36) dX11_thingsIfLent_36 cs_X11_242 (k_bc hb1.1 hb1.2) ⟨by decide, by decide⟩ (Nat.le_of_ble_eq_true rfl) ?_
  exact gq_iret (pc := 39) rfl dX11_thingsIfLent_39 ⟨rfl, rfl⟩
set_option maxHeartbeats 400000 in
theorem m_sb {n : Int32} {N : Nat} (h : p_inv (c + N) r) (hV : V ≤ 6) (e3 : r 3 = nI V) (hN : n = nI N) (hN2 : N ≤ 60) : ge_N X ge_SH YX12_seenBehind 45 [.ref (ge_ad X.1 76), .int n] (ge_m g r f) (some (.int (nI (p_sb (p_hrs r N) V)))) (ge_m g (g 79) (p_tb f (p_pt f r N) (p_pb f r N))) := by
  have ho := p_inv_hrs (c := c) N h
  have hb1 := p_sb_in ho hV
  refine gq_ofB (l := [(0, .ref (ge_ad X.1 76)), (1, .int n)]) (by decide) (Nat.le_of_ble_eq_true rfl) rfl ?_
  refine gq_aload_n (pc := 0) dX12_seenBehind_0 rfl ?_
  refine gq_iload_n (pc := 1) dX12_seenBehind_1 rfl ?_
  refine gq_rV1i (pc := 2) dX12_seenBehind_2 cv_X12_195 sh_76 (k_passes (c := c) hN (by omega) h) ⟨by decide, by decide⟩ rfl rfl (Nat.le_of_ble_eq_true rfl) ?_
  refine gq_pop (pc := 5) dX12_seenBehind_5 rfl ?_
  refine gq_aload_n (pc := 6) dX12_seenBehind_6 rfl ?_
  refine gq_rV0i (pc := 7) dX12_seenBehind_7 cv_X12_210 sh_76 (k_seenByAny hV (by rw [p_3_hrs]; exact e3)) ⟨by decide, by decide⟩ rfl rfl (Nat.le_of_ble_eq_true rfl) ?_
  refine gq_rS1i (pc := 10) dX12_seenBehind_10 cs_X12_191 (k_bits hb1.1 hb1.2) ⟨by decide, by decide⟩ (Nat.le_of_ble_eq_true rfl) ?_
  refine gq_istore_n (pc := 13) (l' := [(2, _), (0, _), (1, _)]) dX12_seenBehind_13 (by decide) rfl ?_
  refine gq_aload_n (pc := 14) dX12_seenBehind_14 rfl ?_
  refine gq_aload_n (pc := 15) dX12_seenBehind_15 rfl ?_
  refine gq_getr (pc := 16) dX12_seenBehind_16 fl_X12_16_12 sh_76 rfl ?_
  refine gq_aload_n (pc := 19) dX12_seenBehind_19 rfl ?_
  refine gq_getr (pc := 20) dX12_seenBehind_20 fl_X12_7_12 sh_76 rfl ?_
  refine gq_rV2v (pc := 23) dX12_seenBehind_23 cv_X12_170 sh_76 (k_move_back sh_79 (by decide) (by decide) (by decide)) ⟨by decide, by decide⟩ rfl rfl (Nat.le_of_ble_eq_true rfl) ?_
  refine gq_iload_n (pc := 26) dX12_seenBehind_26 rfl ?_
  exact gq_iret (pc := 27) rfl dX12_seenBehind_27 ⟨rfl, rfl⟩
set_option maxHeartbeats 2000000 in
theorem c_lend_ok {n : Int32} {N E : Nat} (h : p_ok g (c + N) V r) (hN : n = nI N) (hN2 : N ≤ 30) (hE : E ≤ 8) (e2 : r 2 = nI E) : ge_N X ge_SH YX11_lend 7 [.ref (ge_ad X.1 0), .int n] (ge_k g 25 r x hb) (some (.int (p_lo r V N E).1)) (ge_k (gt_lo r V N g E) 25 r x hb) := by
  have hV := h.2.2.1
  have e3 := h.2.1
  have e23 : (2 : Int32) * nI V = nI (2 * V) := pk_mul 2 V
  refine gq_ofB (l := [(0, .ref (ge_ad X.1 0)), (1, .int n)]) (by decide) (Nat.le_of_ble_eq_true rfl) rfl ?_
  have inner : ∀ (e : Nat), e < E → ge_B X ge_SH YX11_lend 7 (fun v2 g2 => v2 = (some (.int (p_lo r V N E).1)) ∧ g2 = (ge_k (gt_lo r V N g E) 25 r x hb)) 116 [(4, .int (nI e)), (3, .int (p_lk r V N e (p_lo r V N e) (2 * V)).2), (2, .int (p_lk r V N e (p_lo r V N e) (2 * V)).1), (0, .ref (ge_ad X.1 0)), (1, .int n)] [] (ge_k (gt_lk r V N e (gt_lo r V N g e) (2 * V)) 25 r x hb) → ∀ (m k : Nat), k + m = 2 * V → ge_B X ge_SH YX11_lend 7 (fun v2 g2 => v2 = (some (.int (p_lo r V N E).1)) ∧ g2 = (ge_k (gt_lo r V N g E) 25 r x hb)) 38 [(5, .int (nI k)), (4, .int (nI e)), (3, .int (p_lk r V N e (p_lo r V N e) k).2), (2, .int (p_lk r V N e (p_lo r V N e) k).1), (0, .ref (ge_ad X.1 0)), (1, .int n)] [] (ge_k (gt_lk r V N e (gt_lo r V N g e) k) 25 r x hb) := by
    intro e he kont m
    induction m with
    | zero =>
      intro k hk
      obtain rfl : k = 2 * V := hk
      refine gq_iload (pc := 38) dX11_lend_38 rfl ?_
      refine gq_iconst (pc := 40) dX11_lend_40 kc_2 ?_
      refine gq_aload_n (pc := 41) dX11_lend_41 rfl ?_
      refine gq_getr (pc := 42) dX11_lend_42 fl_X11_60_11 sh_0 rfl ?_
      refine kq_get12 (pw := 25) (pc := 45) (by decide) dX11_lend_45 fl_X11_150_10 ?_
      refine gq_imul (pc := 48) dX11_lend_48 ?_
      rw [e3, e23]
      refine gq_ic_ge (pc := 49) 116 dX11_lend_49 (by decide) (fun h_49 => ?_) (fun h_49 => ?_)
      · refine gq_sub [1, 2, 3, 4, 5] rfl ?_
        exact kont
      · exact absurd (Int32.le_refl _) h_49
    | succ m ih =>
      intro k hk
      have ek2 : nI k / 2 = nI (k / 2) := pk_div (d := 2) (by omega) (by decide) (by decide)
      have ek3 : p_rem (nI k) 2 = nI (k % 2) := p_rem_nI (d := 2) (by omega) (by decide) (by decide)
      have e100 : (100 : Int32) * nI e = nI (100 * e) := pk_mul 100 e
      have e10 : (10 : Int32) * nI (k / 2) = nI (10 * (k / 2)) := pk_mul 10 (k / 2)
      have hn := ih (k + 1) (by omega)
      have hg : p_ok (gt_lk r V N e (gt_lo r V N g e) k) (c + N) V r := p_ok_o (fun q hq => by rw [gt_lk_o (by omega), gt_lo_o (by omega)]) h
      have hpl : (100 : Int32) * nI e + (10 * (nI k / 2) + p_rem (nI k) 2) = nI (100 * e + 10 * (k / 2) + k % 2) := by rw [ek2, ek3, e100, e10, nI_add, nI_add]; exact congrArg nI (by omega)
      refine gq_iload (pc := 38) dX11_lend_38 rfl ?_
      refine gq_iconst (pc := 40) dX11_lend_40 kc_2 ?_
      refine gq_aload_n (pc := 41) dX11_lend_41 rfl ?_
      refine gq_getr (pc := 42) dX11_lend_42 fl_X11_60_11 sh_0 rfl ?_
      refine kq_get12 (pw := 25) (pc := 45) (by decide) dX11_lend_45 fl_X11_150_10 ?_
      refine gq_imul (pc := 48) dX11_lend_48 ?_
      rw [e3, e23]
      refine gq_ic_ge (pc := 49) 116 dX11_lend_49 (by decide) (fun h_49 => ?_) (fun h_49 => ?_)
      · exact absurd ((nI_leI (a := 2 * V) (b := k) (by omega) (by omega)).mp h_49) (by omega)
      · refine gq_aload_n (pc := 52) dX11_lend_52 rfl ?_
        refine gq_getr (pc := 53) dX11_lend_53 fl_X11_60_11 sh_0 rfl ?_
        refine gq_iload (pc := 56) dX11_lend_56 rfl ?_
        refine gq_rV1i (pc := 58) dX11_lend_58 cv_X11_247 sh_25 (k_sock_25 hV e3) ⟨by decide, by decide⟩ rfl rfl (Nat.le_of_ble_eq_true rfl) ?_
        refine gq_if_ge (pc := 61) 110 dX11_lend_61 (by decide) (fun h_61 => ?_) (fun h_61 => ?_)
        · refine gq_iinc (pc := 110) (l' := [(5, _), (4, _), (3, _), (2, _), (0, _), (1, _)]) dX11_lend_110 rfl (ge_inc1 k) (by decide) rfl ?_
          refine gq_goto (pc := 113) 38 dX11_lend_113 (by decide) ?_
          have hc : ¬ p_lc r V e k := fun z => absurd z.1 (Int32.not_lt.mpr h_61)
          rw [p_lk_n hc, gt_lk_n hc] at hn
          refine gq_sub [0, 1, 2, 3, 4, 5] rfl ?_
          exact hn
        · refine gq_aload_n (pc := 64) dX11_lend_64 rfl ?_
          refine gq_getr (pc := 65) dX11_lend_65 fl_X11_60_11 sh_0 rfl ?_
          refine gq_getr (pc := 68) dX11_lend_68 fl_X11_250_10 sh_25 rfl ?_
          refine gq_iload (pc := 71) dX11_lend_71 rfl ?_
          refine kq_ald6 (pw := 25) (pc := 73) (by decide) dX11_lend_73 (w := k / 2) (s := k % 2) (by rw [show 2 * (k / 2) + k % 2 = k by omega]) (by omega) (by omega) ?_
          refine gq_iconst (pc := 74) dX11_lend_74 kc_m1 ?_
          refine gq_ic_ne (pc := 75) 110 dX11_lend_75 (by decide) (fun h_75 => ?_) (fun h_75 => ?_)
          · refine gq_iinc (pc := 110) (l' := [(5, _), (4, _), (3, _), (2, _), (0, _), (1, _)]) dX11_lend_110 rfl (ge_inc1 k) (by decide) rfl ?_
            refine gq_goto (pc := 113) 38 dX11_lend_113 (by decide) ?_
            have hc : ¬ p_lc r V e k := fun z => h_75 z.2
            rw [p_lk_n hc, gt_lk_n hc] at hn
            refine gq_sub [0, 1, 2, 3, 4, 5] rfl ?_
            exact hn
          · refine gq_aload_n (pc := 78) dX11_lend_78 rfl ?_
            refine gq_iload (pc := 79) dX11_lend_79 rfl ?_
            refine gq_iload (pc := 81) dX11_lend_81 rfl ?_
            refine gq_iload_n (pc := 83) dX11_lend_83 rfl ?_
            refine gq_rV3i (pc := 84) dX11_lend_84 cv_X11_253 sh_0 (c_lent (c := c) (p_ok_lr hg e2 hE he (by omega) (Int32.not_le.mp h_61)) (by omega) hN (by omega)) ⟨by decide, by decide⟩ rfl rfl (Nat.le_of_ble_eq_true rfl) ?_
            refine gq_istore (pc := 87) (l' := [(6, _), (5, _), (4, _), (3, _), (2, _), (0, _), (1, _)]) dX11_lend_87 (by decide) rfl ?_
            refine gq_iload (pc := 89) dX11_lend_89 rfl ?_
            refine gq_iload_n (pc := 91) dX11_lend_91 rfl ?_
            refine gq_ic_le (pc := 92) 110 dX11_lend_92 (by decide) (fun h_92 => ?_) (fun h_92 => ?_)
            · refine gq_iinc (pc := 110) (l' := [(5, _), (6, _), (4, _), (3, _), (2, _), (0, _), (1, _)]) dX11_lend_110 rfl (ge_inc1 k) (by decide) rfl ?_
              refine gq_goto (pc := 113) 38 dX11_lend_113 (by decide) ?_
              have hc : p_lc r V e k := ⟨Int32.not_le.mp h_61, h_75⟩
              rw [p_lk_m hc (Int32.not_lt.mpr h_92), gt_lk_y hc] at hn
              refine gq_sub [0, 2, 3, 4, 5, 6] rfl ?_
              exact hn
            · refine gq_iload (pc := 95) dX11_lend_95 rfl ?_
              refine gq_istore_n (pc := 97) (l' := [(3, _), (6, _), (5, _), (4, _), (2, _), (0, _), (1, _)]) dX11_lend_97 (by decide) rfl ?_
              refine gq_bipush (pc := 98) dX11_lend_98 kb_100 ?_
              refine gq_iload (pc := 100) dX11_lend_100 rfl ?_
              refine gq_imul (pc := 102) dX11_lend_102 ?_
              refine gq_iload (pc := 103) dX11_lend_103 rfl ?_
              refine gq_rS1i (pc := 105) dX11_lend_105 cs_X11_256 (c_place _) ⟨by decide, by decide⟩ (Nat.le_of_ble_eq_true rfl) ?_
              refine gq_iadd (pc := 108) dX11_lend_108 ?_
              rw [hpl]
              refine gq_istore_n (pc := 109) (l' := [(2, _), (3, _), (6, _), (5, _), (4, _), (0, _), (1, _)]) dX11_lend_109 (by decide) rfl ?_
              refine gq_iinc (pc := 110) (l' := [(5, _), (2, _), (3, _), (6, _), (4, _), (0, _), (1, _)]) dX11_lend_110 rfl (ge_inc1 k) (by decide) rfl ?_
              refine gq_goto (pc := 113) 38 dX11_lend_113 (by decide) ?_
              have hc : p_lc r V e k := ⟨Int32.not_le.mp h_61, h_75⟩
              rw [p_lk_y hc (Int32.not_le.mp h_92), gt_lk_y hc] at hn
              refine gq_sub [0, 4, 2, 1, 5, 6] rfl ?_
              exact hn
  have key : ∀ (m e : Nat), e + m = E → ge_B X ge_SH YX11_lend 7 (fun v2 g2 => v2 = (some (.int (p_lo r V N E).1)) ∧ g2 = (ge_k (gt_lo r V N g E) 25 r x hb)) 23 [(4, .int (nI e)), (3, .int (p_lo r V N e).2), (2, .int (p_lo r V N e).1), (0, .ref (ge_ad X.1 0)), (1, .int n)] [] (ge_k (gt_lo r V N g e) 25 r x hb) := by
    intro m
    induction m with
    | zero =>
      intro e he
      obtain rfl : e = E := he
      refine gq_iload (pc := 23) dX11_lend_23 rfl ?_
      refine gq_aload_n (pc := 25) dX11_lend_25 rfl ?_
      refine gq_getr (pc := 26) dX11_lend_26 fl_X11_60_11 sh_0 rfl ?_
      refine kq_get11 (pw := 25) (pc := 29) (by decide) dX11_lend_29 fl_X11_119_10 ?_
      rw [e2]
      refine gq_ic_ge (pc := 32) 122 dX11_lend_32 (by decide) (fun h_32 => ?_) (fun h_32 => ?_)
      · refine gq_iload_n (pc := 122) dX11_lend_122 rfl ?_
        exact gq_iret (pc := 123) rfl dX11_lend_123 ⟨rfl, rfl⟩
      · exact absurd (Int32.le_refl _) h_32
    | succ m ih =>
      intro e he
      refine gq_iload (pc := 23) dX11_lend_23 rfl ?_
      refine gq_aload_n (pc := 25) dX11_lend_25 rfl ?_
      refine gq_getr (pc := 26) dX11_lend_26 fl_X11_60_11 sh_0 rfl ?_
      refine kq_get11 (pw := 25) (pc := 29) (by decide) dX11_lend_29 fl_X11_119_10 ?_
      rw [e2]
      refine gq_ic_ge (pc := 32) 122 dX11_lend_32 (by decide) (fun h_32 => ?_) (fun h_32 => ?_)
      · exact absurd ((nI_leI (a := E) (b := e) (by omega) (by omega)).mp h_32) (by omega)
      · refine gq_iconst (pc := 35) dX11_lend_35 kc_0 ?_
        refine gq_istore (pc := 36) (l' := [(5, _), (4, _), (3, _), (2, _), (0, _), (1, _)]) dX11_lend_36 (by decide) rfl ?_
        refine gq_sub [0, 1, 2, 3, 4, 5] rfl ?_
        refine inner e (by omega) ?_ (2 * V) 0 (by omega)
        refine gq_iinc (pc := 116) (l' := [(4, _), (3, _), (2, _), (0, _), (1, _)]) dX11_lend_116 rfl (ge_inc1 e) (by decide) rfl ?_
        refine gq_goto (pc := 119) 23 dX11_lend_119 (by decide) ?_
        refine gq_sub [0, 1, 2, 3, 4] rfl ?_
        exact ih (e + 1) (by omega)
  refine gq_iload_n (pc := 0) dX11_lend_0 rfl ?_
  refine gq_iconst (pc := 1) dX11_lend_1 kc_0 ?_
  refine gq_bipush (pc := 2) dX11_lend_2 kb_30 ?_
  refine gq_rS3i (pc := 4) dX11_lend_4 cs_X11_105 (c_outside _ _ _) ⟨by decide, by decide⟩ (Nat.le_of_ble_eq_true rfl) ?_
  refine gq_if_eq (pc := 7) 16 dX11_lend_7 (by decide) (fun h_7 => ?_) (fun h_7 => ?_)
  · refine gq_iconst (pc := 16) dX11_lend_16 kc_m1 ?_
    refine gq_istore_n (pc := 17) (l' := [(2, _), (0, _), (1, _)]) dX11_lend_17 (by decide) rfl ?_
    refine gq_iconst (pc := 18) dX11_lend_18 kc_m1 ?_
    refine gq_istore_n (pc := 19) (l' := [(3, _), (2, _), (0, _), (1, _)]) dX11_lend_19 (by decide) rfl ?_
    refine gq_iconst (pc := 20) dX11_lend_20 kc_0 ?_
    refine gq_istore (pc := 21) (l' := [(4, _), (3, _), (2, _), (0, _), (1, _)]) dX11_lend_21 (by decide) rfl ?_
    refine gq_sub [0, 1, 2, 3, 4] rfl ?_
    exact key E 0 (by omega)
  · exact absurd (p_nt_0.mpr (p_in_le (N := 30) hN hN2 (by decide))) h_7
set_option maxHeartbeats 2000000 in
theorem m_lend_ok {n : Int32} {N E : Nat} (h : p_ok g (c + N) V r) (hN : n = nI N) (hN2 : N ≤ 30) (hE : E ≤ 8) (e2 : r 2 = nI E) : ge_N X ge_SH YX12_lend 46 [.ref (ge_ad X.1 76), .int n] (ge_m g r f) (some (.int (p_lo r V N E).1)) (ge_m (ge_row g 79 r) r (p_lof r V N f E)) := by
  have hV := h.2.2.1
  have e3 := h.2.1
  have e23 : (2 : Int32) * nI V = nI (2 * V) := pk_mul 2 V
  refine gq_ofB (l := [(0, .ref (ge_ad X.1 76)), (1, .int n)]) (by decide) (Nat.le_of_ble_eq_true rfl) rfl ?_
  have inner : ∀ (e : Nat), e < E → ge_B X ge_SH YX12_lend 46 (fun v2 g2 => v2 = (some (.int (p_lo r V N E).1)) ∧ g2 = (ge_m (ge_row g 79 r) r (p_lof r V N f E))) 156 [(4, .int (nI e)), (3, .int (p_lk r V N e (p_lo r V N e) (2 * V)).2), (2, .int (p_lk r V N e (p_lo r V N e) (2 * V)).1), (0, .ref (ge_ad X.1 76)), (1, .int n)] [] (ge_m (ge_row g 79 r) r (p_lkf r V N e (p_lof r V N f e) (2 * V))) → ∀ (m k : Nat), k + m = 2 * V → ge_B X ge_SH YX12_lend 46 (fun v2 g2 => v2 = (some (.int (p_lo r V N E).1)) ∧ g2 = (ge_m (ge_row g 79 r) r (p_lof r V N f E))) 50 [(5, .int (nI k)), (4, .int (nI e)), (3, .int (p_lk r V N e (p_lo r V N e) k).2), (2, .int (p_lk r V N e (p_lo r V N e) k).1), (0, .ref (ge_ad X.1 76)), (1, .int n)] [] (ge_m (ge_row g 79 r) r (p_lkf r V N e (p_lof r V N f e) k)) := by
    intro e he kont m
    induction m with
    | zero =>
      intro k hk
      obtain rfl : k = 2 * V := hk
      refine gq_iload (pc := 50) dX12_lend_50 rfl ?_
      refine gq_iconst (pc := 52) dX12_lend_52 kc_2 ?_
      refine gq_aload_n (pc := 53) dX12_lend_53 rfl ?_
      refine gq_getr (pc := 54) dX12_lend_54 fl_X12_7_12 sh_76 rfl ?_
      refine gq_iconst (pc := 57) dX12_lend_57 kc_3 ?_
      refine qm_ald (pc := 58) dX12_lend_58 kl_3 (by first | decide | omega) ?_
      refine gq_imul (pc := 59) dX12_lend_59 ?_
      rw [e3, e23]
      refine gq_ic_ge (pc := 60) 156 dX12_lend_60 (by decide) (fun h_60 => ?_) (fun h_60 => ?_)
      · refine gq_sub [1, 2, 3, 4, 5] rfl ?_
        exact kont
      · exact absurd (Int32.le_refl _) h_60
    | succ m ih =>
      intro k hk
      have ek2 : nI k / 2 = nI (k / 2) := pk_div (d := 2) (by omega) (by decide) (by decide)
      have ek3 : p_rem (nI k) 2 = nI (k % 2) := p_rem_nI (d := 2) (by omega) (by decide) (by decide)
      have e100 : (100 : Int32) * nI e = nI (100 * e) := pk_mul 100 e
      have e10 : (10 : Int32) * nI (k / 2) = nI (10 * (k / 2)) := pk_mul 10 (k / 2)
      have hn := ih (k + 1) (by omega)
      have hpl : (100 : Int32) * nI e + 10 * (nI k / 2) + p_rem (nI k) 2 = nI (100 * e + 10 * (k / 2) + k % 2) := by rw [ek2, ek3, e100, e10, nI_add, nI_add]
      have hwb := (p_sk_wb (r := r) (j := e) hV h.2.2.2.1 (by omega)).2
      have hee : p_o r (k / 2) (k % 2) < 0 ↔ p_o r (k / 2) (k % 2) = -1 := p_e1_m ((p_ok_EE h e2 hE (k / 2) (by omega) (k % 2) (by omega)).imp_right (fun ⟨j, a, b⟩ => ⟨j, by omega, b⟩))
      refine gq_iload (pc := 50) dX12_lend_50 rfl ?_
      refine gq_iconst (pc := 52) dX12_lend_52 kc_2 ?_
      refine gq_aload_n (pc := 53) dX12_lend_53 rfl ?_
      refine gq_getr (pc := 54) dX12_lend_54 fl_X12_7_12 sh_76 rfl ?_
      refine gq_iconst (pc := 57) dX12_lend_57 kc_3 ?_
      refine qm_ald (pc := 58) dX12_lend_58 kl_3 (by first | decide | omega) ?_
      refine gq_imul (pc := 59) dX12_lend_59 ?_
      rw [e3, e23]
      refine gq_ic_ge (pc := 60) 156 dX12_lend_60 (by decide) (fun h_60 => ?_) (fun h_60 => ?_)
      · exact absurd ((nI_leI (a := 2 * V) (b := k) (by omega) (by omega)).mp h_60) (by omega)
      · refine gq_aload_n (pc := 63) dX12_lend_63 rfl ?_
        refine gq_iload (pc := 64) dX12_lend_64 rfl ?_
        refine gq_rV1i (pc := 66) dX12_lend_66 cv_X12_72 sh_76 (k_wornBy hV e3) ⟨by decide, by decide⟩ rfl rfl (Nat.le_of_ble_eq_true rfl) ?_
        refine gq_if_ge (pc := 69) 156 dX12_lend_69 (by decide) (fun h_69 => ?_) (fun h_69 => ?_)
        · have hw : ¬ p_sk r (nI e) (2 * V) 0 < 0 := fun z => hwb.mp z h_69
          rw [p_lk_w hw, p_lkf_w hw]
          rw [p_lk_w hw, p_lkf_w hw] at kont
          refine gq_sub [1, 2, 3, 4, 5] rfl ?_
          exact kont
        · refine gq_aload_n (pc := 72) dX12_lend_72 rfl ?_
          refine gq_iload (pc := 73) dX12_lend_73 rfl ?_
          refine gq_iconst (pc := 75) dX12_lend_75 kc_2 ?_
          refine gq_idiv (pc := 76) dX12_lend_76 (by decide) ?_
          refine gq_iload (pc := 77) dX12_lend_77 rfl ?_
          refine gq_iconst (pc := 79) dX12_lend_79 kc_2 ?_
          refine gq_irem (pc := 80) dX12_lend_80 (by decide) (rfl : _ = p_rem _ _) ?_
          refine gq_rV2i (pc := 81) dX12_lend_81 cv_X12_63 sh_76 (k_ones ek2 ek3 (by omega)) ⟨by decide, by decide⟩ rfl rfl (Nat.le_of_ble_eq_true rfl) ?_
          refine gq_if_ge (pc := 84) 150 dX12_lend_84 (by decide) (fun h_84 => ?_) (fun h_84 => ?_)
          · refine gq_iinc (pc := 150) (l' := [(5, _), (4, _), (3, _), (2, _), (0, _), (1, _)]) dX12_lend_150 rfl (ge_inc1 k) (by decide) rfl ?_
            refine gq_goto (pc := 153) 50 dX12_lend_153 (by decide) ?_
            have hc : ¬ p_lc r V e k := fun z => absurd (hee.mpr z.2) (Int32.not_lt.mpr h_84)
            rw [p_lk_n hc, p_lkf_n hc] at hn
            refine gq_sub [0, 1, 2, 3, 4, 5] rfl ?_
            exact hn
          · refine gq_aload_n (pc := 87) dX12_lend_87 rfl ?_
            refine gq_iload (pc := 88) dX12_lend_88 rfl ?_
            refine gq_iconst (pc := 90) dX12_lend_90 kc_2 ?_
            refine gq_idiv (pc := 91) dX12_lend_91 (by decide) ?_
            refine gq_iload (pc := 92) dX12_lend_92 rfl ?_
            refine gq_iconst (pc := 94) dX12_lend_94 kc_2 ?_
            refine gq_irem (pc := 95) dX12_lend_95 (by decide) (rfl : _ = p_rem _ _) ?_
            refine gq_iload (pc := 96) dX12_lend_96 rfl ?_
            refine gq_rV3v (pc := 98) dX12_lend_98 cv_X12_81 sh_76 (k_puts ek2 ek3 (by omega)) ⟨by decide, by decide⟩ rfl rfl (Nat.le_of_ble_eq_true rfl) ?_
            refine gq_aload_n (pc := 101) dX12_lend_101 rfl ?_
            refine gq_iload_n (pc := 102) dX12_lend_102 rfl ?_
            refine gq_rV1i (pc := 103) dX12_lend_103 cv_X12_213 sh_76 (m_sb (c := c) (r := p_lr r e k) (p_ok_lr h e2 hE he (by omega) (hwb.mpr h_69)).1 hV (by unfold p_lr; rw [p_lo_uo _ _ _ _ 3 (by omega)]; exact e3) hN (by omega)) ⟨by decide, by decide⟩ rfl rfl (Nat.le_of_ble_eq_true rfl) ?_
            refine gq_tog (g := ge_m (ge_row g 79 r) r (p_tb (p_lkf r V N e (p_lof r V N f e) k) (p_pt (p_lkf r V N e (p_lof r V N f e) k) (p_lr r e k) N) (p_pb (p_lkf r V N e (p_lof r V N f e) k) (p_lr r e k) N))) (by rw [ge_row_self]) ?_
            refine gq_istore (pc := 106) (l' := [(6, _), (5, _), (4, _), (3, _), (2, _), (0, _), (1, _)]) dX12_lend_106 (by decide) rfl ?_
            refine gq_iload (pc := 108) dX12_lend_108 rfl ?_
            refine gq_iload_n (pc := 110) dX12_lend_110 rfl ?_
            refine gq_ic_le (pc := 111) 135 dX12_lend_111 (by decide) (fun h_111 => ?_) (fun h_111 => ?_)
            · refine gq_iload_n (pc := 135) dX12_lend_135 rfl ?_
              refine gq_istore_n (pc := 136) (l' := [(2, _), (6, _), (5, _), (4, _), (3, _), (0, _), (1, _)]) dX12_lend_136 (by decide) rfl ?_
              refine gq_iload (pc := 137) dX12_lend_137 rfl ?_
              refine gq_iload_n (pc := 139) dX12_lend_139 rfl ?_
              refine gq_ic_le (pc := 140) 148 dX12_lend_140 (by decide) (fun h_140 => ?_) (fun h_140 => ?_)
              · refine gq_iload_n (pc := 148) dX12_lend_148 rfl ?_
                refine gq_istore_n (pc := 149) (l' := [(3, _), (2, _), (6, _), (5, _), (4, _), (0, _), (1, _)]) dX12_lend_149 (by decide) rfl ?_
                refine gq_iinc (pc := 150) (l' := [(5, _), (3, _), (2, _), (6, _), (4, _), (0, _), (1, _)]) dX12_lend_150 rfl (ge_inc1 k) (by decide) rfl ?_
                refine gq_goto (pc := 153) 50 dX12_lend_153 (by decide) ?_
                have hc : p_lc r V e k := ⟨hwb.mpr h_69, hee.mp (Int32.not_le.mp h_84)⟩
                rw [p_lk_m hc (Int32.not_lt.mpr h_111), p_lkf_y hc] at hn
                refine gq_sub [0, 4, 1, 2, 5, 6] rfl ?_
                exact hn
              · exact absurd h_111 h_140
            · refine gq_bipush (pc := 114) dX12_lend_114 kb_100 ?_
              refine gq_iload (pc := 116) dX12_lend_116 rfl ?_
              refine gq_imul (pc := 118) dX12_lend_118 ?_
              refine gq_bipush (pc := 119) dX12_lend_119 kb_10 ?_
              refine gq_iload (pc := 121) dX12_lend_121 rfl ?_
              refine gq_iconst (pc := 123) dX12_lend_123 kc_2 ?_
              refine gq_idiv (pc := 124) dX12_lend_124 (by decide) ?_
              refine gq_imul (pc := 125) dX12_lend_125 ?_
              refine gq_iadd (pc := 126) dX12_lend_126 ?_
              refine gq_iload (pc := 127) dX12_lend_127 rfl ?_
              refine gq_iconst (pc := 129) dX12_lend_129 kc_2 ?_
              refine gq_irem (pc := 130) dX12_lend_130 (by decide) (rfl : _ = p_rem _ _) ?_
              refine gq_iadd (pc := 131) dX12_lend_131 ?_
              rw [hpl]
              refine gq_goto (pc := 132) 136 dX12_lend_132 (by decide) ?_
              refine gq_istore_n (pc := 136) (l' := [(2, _), (6, _), (5, _), (4, _), (3, _), (0, _), (1, _)]) dX12_lend_136 (by decide) rfl ?_
              refine gq_iload (pc := 137) dX12_lend_137 rfl ?_
              refine gq_iload_n (pc := 139) dX12_lend_139 rfl ?_
              refine gq_ic_le (pc := 140) 148 dX12_lend_140 (by decide) (fun h_140 => ?_) (fun h_140 => ?_)
              · exact absurd h_140 h_111
              · refine gq_iload (pc := 143) dX12_lend_143 rfl ?_
                refine gq_goto (pc := 145) 149 dX12_lend_145 (by decide) ?_
                refine gq_istore_n (pc := 149) (l' := [(3, _), (2, _), (6, _), (5, _), (4, _), (0, _), (1, _)]) dX12_lend_149 (by decide) rfl ?_
                refine gq_iinc (pc := 150) (l' := [(5, _), (3, _), (2, _), (6, _), (4, _), (0, _), (1, _)]) dX12_lend_150 rfl (ge_inc1 k) (by decide) rfl ?_
                refine gq_goto (pc := 153) 50 dX12_lend_153 (by decide) ?_
                have hc : p_lc r V e k := ⟨hwb.mpr h_69, hee.mp (Int32.not_le.mp h_84)⟩
                rw [p_lk_y hc (Int32.not_le.mp h_111), p_lkf_y hc] at hn
                refine gq_sub [0, 4, 1, 2, 5, 6] rfl ?_
                exact hn
  have key : ∀ (m e : Nat), e + m = E → ge_B X ge_SH YX12_lend 46 (fun v2 g2 => v2 = (some (.int (p_lo r V N E).1)) ∧ g2 = (ge_m (ge_row g 79 r) r (p_lof r V N f E))) 36 [(4, .int (nI e)), (3, .int (p_lo r V N e).2), (2, .int (p_lo r V N e).1), (0, .ref (ge_ad X.1 76)), (1, .int n)] [] (ge_m (ge_row g 79 r) r (p_lof r V N f e)) := by
    intro m
    induction m with
    | zero =>
      intro e he
      obtain rfl : e = E := he
      refine gq_iload (pc := 36) dX12_lend_36 rfl ?_
      refine gq_aload_n (pc := 38) dX12_lend_38 rfl ?_
      refine gq_getr (pc := 39) dX12_lend_39 fl_X12_7_12 sh_76 rfl ?_
      refine gq_iconst (pc := 42) dX12_lend_42 kc_2 ?_
      refine qm_ald (pc := 43) dX12_lend_43 kl_2 (by first | decide | omega) ?_
      rw [e2]
      refine gq_ic_ge (pc := 44) 162 dX12_lend_44 (by decide) (fun h_44 => ?_) (fun h_44 => ?_)
      · refine gq_iload_n (pc := 162) dX12_lend_162 rfl ?_
        exact gq_iret (pc := 163) rfl dX12_lend_163 ⟨rfl, rfl⟩
      · exact absurd (Int32.le_refl _) h_44
    | succ m ih =>
      intro e he
      refine gq_iload (pc := 36) dX12_lend_36 rfl ?_
      refine gq_aload_n (pc := 38) dX12_lend_38 rfl ?_
      refine gq_getr (pc := 39) dX12_lend_39 fl_X12_7_12 sh_76 rfl ?_
      refine gq_iconst (pc := 42) dX12_lend_42 kc_2 ?_
      refine qm_ald (pc := 43) dX12_lend_43 kl_2 (by first | decide | omega) ?_
      rw [e2]
      refine gq_ic_ge (pc := 44) 162 dX12_lend_44 (by decide) (fun h_44 => ?_) (fun h_44 => ?_)
      · exact absurd ((nI_leI (a := E) (b := e) (by omega) (by omega)).mp h_44) (by omega)
      · refine gq_iconst (pc := 47) dX12_lend_47 kc_0 ?_
        refine gq_istore (pc := 48) (l' := [(5, _), (4, _), (3, _), (2, _), (0, _), (1, _)]) dX12_lend_48 (by decide) rfl ?_
        refine gq_sub [0, 1, 2, 3, 4, 5] rfl ?_
        refine inner e (by omega) ?_ (2 * V) 0 (by omega)
        refine gq_iinc (pc := 156) (l' := [(4, _), (3, _), (2, _), (0, _), (1, _)]) dX12_lend_156 rfl (ge_inc1 e) (by decide) rfl ?_
        refine gq_goto (pc := 159) 36 dX12_lend_159 (by decide) ?_
        refine gq_sub [0, 1, 2, 3, 4] rfl ?_
        exact ih (e + 1) (by omega)
  refine gq_iload_n (pc := 0) dX12_lend_0 rfl ?_
  refine gq_iconst (pc := 1) dX12_lend_1 kc_0 ?_
  refine gq_bipush (pc := 2) dX12_lend_2 kb_30 ?_
  refine gq_rS3i (pc := 4) dX12_lend_4 cs_X12_41 (k_in _ _ _) ⟨by decide, by decide⟩ (Nat.le_of_ble_eq_true rfl) ?_
  refine gq_if_ne (pc := 7) 17 dX12_lend_7 (by decide) (fun h_7 => ?_) (fun h_7 => ?_)
  · refine gq_iconst (pc := 17) dX12_lend_17 kc_m1 ?_
    refine gq_istore_n (pc := 18) (l' := [(2, _), (0, _), (1, _)]) dX12_lend_18 (by decide) rfl ?_
    refine gq_iconst (pc := 19) dX12_lend_19 kc_m1 ?_
    refine gq_istore_n (pc := 20) (l' := [(3, _), (2, _), (0, _), (1, _)]) dX12_lend_20 (by decide) rfl ?_
    refine gq_aload_n (pc := 21) dX12_lend_21 rfl ?_
    refine gq_aload_n (pc := 22) dX12_lend_22 rfl ?_
    refine gq_getr (pc := 23) dX12_lend_23 fl_X12_7_12 sh_76 rfl ?_
    refine gq_aload_n (pc := 26) dX12_lend_26 rfl ?_
    refine gq_getr (pc := 27) dX12_lend_27 fl_X12_16_12 sh_76 rfl ?_
    refine gq_rV2v (pc := 30) dX12_lend_30 cv_X12_170 sh_76 (k_move_to sh_79 (by decide) (by decide)) ⟨by decide, by decide⟩ rfl rfl (Nat.le_of_ble_eq_true rfl) ?_
    refine gq_iconst (pc := 33) dX12_lend_33 kc_0 ?_
    refine gq_istore (pc := 34) (l' := [(4, _), (3, _), (2, _), (0, _), (1, _)]) dX12_lend_34 (by decide) rfl ?_
    refine gq_sub [0, 1, 2, 3, 4] rfl ?_
    exact key E 0 (by omega)
  · exact absurd h_7 (p_in_le (N := 30) hN hN2 (by decide))
set_option maxHeartbeats 400000 in
theorem c_lend_er {n : Int32} (h : p_in n 0 30 = 0) : ge_N X ge_SH YX11_lend 7 [.ref (ge_ad X.1 0), .int n] (ge_k g 25 r x hb) (some (.int (-1000000000 - 1))) (ge_k (ge_up g 75 1 (g 75 1 + 1)) 25 r x hb) := by
  refine gq_ofB (l := [(0, .ref (ge_ad X.1 0)), (1, .int n)]) (by decide) (Nat.le_of_ble_eq_true rfl) rfl ?_
  refine gq_iload_n (pc := 0) dX11_lend_0 rfl ?_
  refine gq_iconst (pc := 1) dX11_lend_1 kc_0 ?_
  refine gq_bipush (pc := 2) dX11_lend_2 kb_30 ?_
  refine gq_rS3i (pc := 4) dX11_lend_4 cs_X11_105 (c_outside _ _ _) ⟨by decide, by decide⟩ (Nat.le_of_ble_eq_true rfl) ?_
  refine gq_if_eq (pc := 7) 16 dX11_lend_7 (by decide) (fun h_7 => ?_) (fun h_7 => ?_)
  · exact absurd h (p_nt_0.mp h_7)
  · refine gq_aload_n (pc := 10) dX11_lend_10 rfl ?_
    refine gq_iconst (pc := 11) dX11_lend_11 kc_1 ?_
    refine gq_rV1i (pc := 12) dX11_lend_12 cv_X11_109 sh_0 (c_error kl_1 (by decide)) ⟨by decide, by decide⟩ rfl rfl (Nat.le_of_ble_eq_true rfl) ?_
    exact gq_iret (pc := 15) rfl dX11_lend_15 ⟨rfl, rfl⟩
set_option maxHeartbeats 400000 in
theorem m_lend_er {n : Int32} (h : p_in n 0 30 = 0) : ge_N X ge_SH YX12_lend 46 [.ref (ge_ad X.1 76), .int n] (ge_m g r f) (some (.int (-1000000001))) (ge_m (ge_up g 81 1 (g 81 1 + 1)) r f) := by
  refine gq_ofB (l := [(0, .ref (ge_ad X.1 76)), (1, .int n)]) (by decide) (Nat.le_of_ble_eq_true rfl) rfl ?_
  refine gq_iload_n (pc := 0) dX12_lend_0 rfl ?_
  refine gq_iconst (pc := 1) dX12_lend_1 kc_0 ?_
  refine gq_bipush (pc := 2) dX12_lend_2 kb_30 ?_
  refine gq_rS3i (pc := 4) dX12_lend_4 cs_X12_41 (k_in _ _ _) ⟨by decide, by decide⟩ (Nat.le_of_ble_eq_true rfl) ?_
  refine gq_if_ne (pc := 7) 17 dX12_lend_7 (by decide) (fun h_7 => ?_) (fun h_7 => ?_)
  · exact absurd h h_7
  · refine gq_aload_n (pc := 10) dX12_lend_10 rfl ?_
    refine gq_ldc (pc := 11) dX12_lend_11 kn_X12_53 ?_
    refine gq_rV1i (pc := 13) dX12_lend_13 cv_X12_54 sh_76 (k_errs (j := 1) (by decide) (by decide)) ⟨by decide, by decide⟩ rfl rfl (Nat.le_of_ble_eq_true rfl) ?_
    exact gq_iret (pc := 16) rfl dX12_lend_16 ⟨rfl, rfl⟩
end T5
