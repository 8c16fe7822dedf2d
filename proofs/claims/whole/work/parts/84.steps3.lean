section U3
variable {X : ge_X} {n : Nat} {G : ge_G} {c V E : Nat}
section U30
variable {g g1 g2 : ge_G} {r r' r1 rc rm x x1 hb hb1 f f1 : Nat → Int32} {y1 y2 : ge_Y} {d1 d2 : Nat} {a1 a2 : List Value} {v v2 : Int32} {G2 : ge_G}
theorem ge_k_ra (h : ge_ra r r') : ge_ag ge_SH (ge_k g 25 r x hb) (ge_k g 25 r' x hb) := by
  obtain ⟨a0, a1, a2, a3, a4, a5, a6⟩ := h
  refine ge_k_ag (Or.inl rfl) (fun k _ => ?_) (fun t ht => ?_) (fun e he => ?_) (fun e he => ?_) (fun e he => ?_) (fun e he => ?_) (fun s hs => ?_) (fun w hw => ?_) (fun w hw => ?_) (fun w hw => ?_) (fun q hq => ge_k_o _ _ _ _ _ hq)
  · rw [ge_k_0, ge_k_0, a0, a1, a2, a3]
  · rw [ge_k_1]; exact a4 t ht
  · rw [ge_k_2]; exact a5 e he 0 (by omega)
  · rw [ge_k_3]; exact a5 e he 1 (by omega)
  · rw [ge_k_4]; exact a5 e he 2 (by omega)
  · rw [ge_k_5]; exact a5 e he 3 (by omega)
  · rw [ge_k_6]; exact a6 (s / 2) (by omega) (s % 2) (by omega)
  · rw [ge_k_7]; exact a6 w hw 2 (by omega)
  · rw [ge_k_8]; exact a6 w hw 3 (by omega)
  · rw [ge_k_9]
theorem ge_ra_lo (ha : ∀ i, i < 4 ∨ (8 ≤ i ∧ i < 74) → r' i = r i) : ge_ra r r' :=
  ⟨(ha 0 (by omega)).symm, (ha 1 (by omega)).symm, (ha 2 (by omega)).symm, (ha 3 (by omega)).symm, fun t ht => (ha _ (by omega)).symm, fun e he k hk => (ha (18 + 4 * e + k) (by omega)).symm, fun w hw k hk => (ha (50 + 4 * w + k) (by omega)).symm⟩
theorem ge_ra_rf : ge_ra r r := ge_ra_lo (fun _ _ => rfl)
/-- a step where the row of the class's side is told by another that is alike -/
theorem st_go2 (hG : ge_ag ge_SH G (ge_k g 25 r x hb)) (hc : ge_N X ge_SH y1 d1 a1 (ge_k g 25 r x hb) (some (.int v)) (ge_k g1 25 rc x1 hb1)) (e7 : g1 77 = r) (e6 : g1 76 = f)
    (hv : v2 = v) (hm : ge_N X ge_SH y2 d2 a2 (ge_m (ge_k g1 25 rc x1 hb1) r f) (some (.int v2)) (ge_m G2 rm f1)) (hw : ∀ q, 25 ≤ q → q ≤ 34 → G2 q = ge_k g1 25 rc x1 hb1 q) (hra : ge_ra rc rm)
    (hJ : i_J (n + 1) (ge_m G2 rm f1) rm x1 f1) (hd1 : d1 ≤ 1500) (hd2 : d2 ≤ 1500) : st_is X n G y1 y2 a1 a2 := by
  subst hv
  have e : ge_m (ge_k g1 25 rc x1 hb1) r f = ge_k g1 25 rc x1 hb1 := by
    have h7 : ge_k g1 25 rc x1 hb1 77 = r := by rw [ge_k_o _ _ _ _ _ (by decide)]; exact e7
    have h6 : ge_k g1 25 rc x1 hb1 76 = f := by rw [ge_k_o _ _ _ _ _ (by decide)]; exact e6
    have := ge_m_self (ge_k g1 25 rc x1 hb1)
    rw [h7, h6] at this
    exact this
  rw [e] at hm
  refine ⟨d1, d2, v2, _, _, hd1, hd2, ge_NQag hG hc, hm, ge_m G2 rm f1, x1, hb1, ?_, hJ⟩
  have e2 : ge_k (ge_m G2 rm f1) 25 rc x1 hb1 = ge_m G2 rm f1 := by
    funext q
    by_cases h : 25 ≤ q ∧ q ≤ 34
    · rw [ge_k_in (g1 := ge_m G2 rm f1) (g2 := g1) (by omega), ge_m_o G2 rm f1 (q := q) (by omega) (by omega), hw q h.1 h.2]
    · rw [ge_k_o _ _ _ _ _ (by omega)]
  have e3 := ge_k_ra (g := ge_m G2 rm f1) (x := x1) (hb := hb1) hra
  rw [e2] at e3
  exact e3
/-- another row, another tape, other codes -/
theorem i_J_W (hok : ∃ V, p_ok g2 10000 V r1) (ht : i_tape g2 r1 58) (hw : i_wait g2 r1 62) (h : ∀ q, ge_L q → ¬ (13 ≤ q ∧ q ≤ 16) → ¬ (q = 58 ∨ q = 59 ∨ q = 62 ∨ q = 63) → g2 q = g q) (hf : f1 4 = f 4 ∧ f1 5 = f 5 ∧ f1 22 = f 22) (hx : x1 18 = -1) (hJ : i_J n g r x f) : i_J (n + 1) g2 r1 x1 f1 := by
  obtain ⟨-, -, -, a4, a5, a6, a7, a8⟩ := hJ
  have h' : ∀ q, q ≤ 2 ∨ (20 ≤ q ∧ q ≤ 23) ∨ (45 ≤ q ∧ q ≤ 54) ∨ q = 60 ∨ q = 61 ∨ q = 64 ∨ q = 65 ∨ (67 ≤ q ∧ q ≤ 75) ∨ q = 78 ∨ (81 ≤ q ∧ q ≤ 84) ∨ q = 86 → g2 q = g q := fun q hq => h q (by unfold ge_L; omega) (by omega) (by omega)
  refine ⟨hok, ht, hw, fun s hs => i_sh_P hs (fun q hq => h' q (by omega)) (a4 s hs), i_er_P (h' 75 (by omega)) (h' 81 (by omega)) a5, i_tr_P (fun q hq => h' q (by omega)) hf.2.2 a6, ?_, hx⟩
  obtain ⟨m, q1, q2, q3, q4, q5⟩ := a7
  refine ⟨m, by omega, by rw [hf.2.1]; exact q2, by rw [h' 0 (by omega)]; exact q3, by rw [hf.1]; exact q4, fun z => ?_⟩
  rw [h' 78 (by omega)]
  obtain ⟨b1, b2, b3, b4, b5⟩ := q5 z
  refine ⟨?_, b2, c_lwk_P (fun q z1 z2 => h' q (by omega)) b3, i_tape_P (h' 60 (by omega)) (h' 61 (by omega)) b4, i_wait_P (h' 64 (by omega)) (h' 65 (by omega)) b5⟩
  unfold ge_wr at *
  rw [h' 45 (by omega), h' (45 + 1) (by omega), h' (45 + 2) (by omega), h' (45 + 3) (by omega), h' (45 + 4) (by omega), h' (45 + 5) (by omega), h' (45 + 6) (by omega), h' (45 + 7) (by omega), h' (45 + 8) (by omega)]
  exact b1
theorem ge_mk_o {q : Nat} (h : q < 25 ∨ 34 < q) (h6 : q ≠ 76) (h7 : q ≠ 77) : ge_m (ge_k g 25 r x hb) r1 f1 q = g q := by rw [ge_m_o _ _ _ h7 h6, ge_k_o _ _ _ _ _ (by omega)]
theorem ge_up_is (g : ge_G) (p k : Nat) (z : Int32) : ge_up g p k z p = upd (g p) k z := by unfold ge_up; rw [ge_row_self]
theorem p_hold_in (z i : Int32) : p_hold z i 1 = p_in i 0 (z - 1) := by
  unfold p_hold p_in
  rw [if_neg (show ¬ (1 : Int32) < 0 by decide)]
/-- the row's place 5 does not matter to the hours -/
def p_y (r r' : Nat → Int32) : Prop := ∀ i, i ≠ 5 → r' i = r i
theorem p_y_e (h : p_y r r') (e k : Nat) : p_e r' e k = p_e r e k := h _ (by omega)
theorem p_y_o (h : p_y r r') (w k : Nat) : p_o r' w k = p_o r w k := h _ (by omega)
theorem p_y_l (h : p_y r r') {u : Nat} (hu : u < 2) (A B C : Int32) : p_law r' u A B C = p_law r u A B C := p_law_of2 (h _ (by omega)) (fun i hi => h i (by omega)) A B C
theorem p_y_sh (h : p_y r r') (e : Nat) : p_shows r' e = p_shows r e := by
  unfold p_shows p_v
  rw [p_y_l h (by decide), p_y_e h, p_y_e h, p_y_e h, p_y_e h, h 0 (by decide)]
theorem p_y_hd (h : p_y r r') (w : Nat) : p_heeded r' w = p_heeded r w := by
  unfold p_heeded
  rw [p_y_o h, p_y_o h, p_y_sh h, p_y_sh h, p_y_l h (by decide), h 0 (by decide)]
theorem p_y_left (h : p_y r r') (w e : Nat) : p_left r' w e = p_left r w e := by
  have e1 : p_less r' e = p_less r e := by
    unfold p_less p_heavy
    rw [p_y_sh h, p_y_e h, h 0 (by decide), h (8 + _) (by omega)]
  unfold p_left
  rw [e1, p_y_o h]
theorem p_y_upd (h : p_y r r') (k : Nat) (z : Int32) : p_y (upd r k z) (upd r' k z) := by
  intro i hi
  by_cases e : i = k
  · subst e; rw [pk_us, pk_us]
  · rw [pk_un e, pk_un e, h i hi]
theorem p_y_wear (h : p_y r r') (z : Int32) : p_y (p_wear r z) (p_wear r' z) := by
  unfold p_wear
  by_cases q : z < 0
  · rw [if_pos q, if_pos q]; exact h
  · rw [if_neg q, if_neg q, p_y_e h]; exact p_y_upd h _ _
theorem p_y_look (h : p_y r r') (w e : Nat) : p_y (p_look r w e) (p_look r' w e) := by
  have k1 : p_y (p_look1 r w e) (p_look1 r' w e) := by
    unfold p_look1
    rw [p_y_left h, p_y_sh h, p_y_o h]
    exact p_y_upd (p_y_upd h _ _) _ _
  have k2 : p_y (p_wear1 (p_look1 r w e) w) (p_wear1 (p_look1 r' w e) w) := by
    unfold p_wear1
    rw [p_y_o k1]
    exact p_y_wear k1 _
  have k3 : p_y (p_look2 r w e) (p_look2 r' w e) := by
    unfold p_look2 p_wear2
    rw [p_y_o k2]
    exact p_y_wear k2 _
  unfold p_look
  rw [p_y_left h]
  by_cases z : p_left r w e = 0
  · rw [if_pos z, if_pos z]
    unfold p_take
    rw [p_y_o k3]
    refine p_y_upd ?_ _ _
    by_cases y : p_o (p_look2 r w e) w 0 = nI e
    · rw [if_pos y, if_pos y]; exact p_y_upd k3 _ _
    · rw [if_neg y, if_neg y]; exact p_y_upd k3 _ _
  · rw [if_neg z, if_neg z]; exact k3
theorem p_y_one (h : p_y r r') (w : Nat) : p_y (p_one r w) (p_one r' w) := by
  unfold p_one
  rw [p_y_hd h, p_y_o h]
  by_cases q : p_heeded r w < 0
  · rw [if_pos q, if_pos q]; exact p_y_upd h _ _
  · rw [if_neg q, if_neg q]; exact p_y_look h _ _
theorem p_y_ones (h : p_y r r') : ∀ w, p_y (p_ones r w) (p_ones r' w) := by
  intro w
  induction w with
  | zero => exact h
  | succ w ih => exact p_y_one ih w
theorem p_y_hour (h : p_y r r') : p_y (p_hour r) (p_hour r') := by
  unfold p_hour
  rw [h 3 (by decide), p_y_ones h _ 0 (by decide)]
  exact p_y_upd (p_y_ones h _) _ _
theorem p_y_hrs (h : p_y r r') : ∀ N, p_y (p_hrs r N) (p_hrs r' N) := by
  intro N
  induction N with
  | zero => exact h
  | succ N ih => exact p_y_hour ih
theorem p_y_bs (h : p_y r r') : ∀ V, p_bs r' V = p_bs r V := by
  intro V
  induction V with
  | zero => rfl
  | succ V ih => show p_bs r' V + p_o r' V 2 = p_bs r V + p_o r V 2; rw [ih, p_y_o h]
theorem p_y_bh (h : p_y r r') (V i : Nat) : p_bh r' V i = p_bh r V i := p_y_bs (p_y_hrs h _) V
theorem p_ju_cg {h h' s s' : Nat → Int32} : ∀ m i, (∀ k, i ≤ k → k < i + m → (h k = s k ↔ h' k = s' k)) → p_ju h s m i = p_ju h' s' m i := by
  intro m
  induction m with
  | zero => intro i _; rfl
  | succ m ih =>
    intro i hh
    have h0 := hh i (by omega) (by omega)
    show (if h i = s i then p_ju h s m (i + 1) else i) = (if h' i = s' i then p_ju h' s' m (i + 1) else i)
    by_cases q : h i = s i
    · rw [if_pos q, if_pos (h0.mp q), ih (i + 1) (fun k k1 k2 => hh k (by omega) (by omega))]
    · rw [if_neg q, if_neg (fun z => q (h0.mpr z))]
/-- copies of rows -/
theorem ge_rc_o {p q N z : Nat} (h : z ≠ p ∧ z ≠ p + 1) : ge_rc g p q N z = g z := by
  unfold ge_rc
  rw [ge_row_ne _ _ h.2, ge_up_row _ _ _ h.1]
theorem ge_rc_1 {p q N : Nat} : ge_rc g p q N p 1 = nI N := by
  unfold ge_rc
  rw [ge_row_ne _ _ (by omega)]
  exact ge_up_self _ _ _ _
theorem ge_rc_c {p q N k : Nat} (hk : k < N) : ge_rc g p q N (p + 1) k = g (q + 1) k := by
  unfold ge_rc
  rw [ge_row_self]
  unfold va_cpy
  rw [if_pos (by omega), show 0 + (k - 0) = k by omega]
theorem c_law_c {p q N : Nat} {L : Int32 → Int32 → Int32 → Int32} (h : c_law g q L) (hN : g q 1 = nI N) (hN2 : N ≤ 50) (h1 : g2 p 1 = nI N) (hc : ∀ k, k < N → g2 (p + 1) k = g (q + 1) k) : c_law g2 p L := by
  obtain ⟨m, m1, m2, m3, m4⟩ := h
  obtain rfl : m = N := (nI_eq (by omega) (by omega)).mp (m2.symm.trans hN)
  refine ⟨m, m1, h1, fun i hi => by rw [hc i hi]; exact m3 i hi, fun A B C => ?_⟩
  have e : c_code g2 (p + 1) m = c_code g (q + 1) m := by
    unfold c_code
    apply List.map_congr_left
    intro i hi
    exact hc i (List.mem_range.mp hi)
  rw [e]
  exact m4 A B C
/-- voices -/
theorem p_adds_at : ∀ (L : List Int32) (g : ge_G) (k j : Nat), p_adds g k L 2 j = if k ≤ j ∧ j < k + L.length then L.getD (j - k) 0 else g 2 j := by
  intro L
  induction L with
  | nil => intro g k j; rw [if_neg (by simp only [List.length_nil]; omega)]; rfl
  | cons z L ih =>
    intro g k j
    show p_adds (ge_up (ge_up g 2 k z) 1 1 (nI (k + 1))) (k + 1) L 2 j = _
    rw [ih, ge_up_row _ _ _ (by decide), ge_up_is]
    simp only [List.length_cons]
    by_cases q : j = k
    · subst q
      rw [if_neg (by omega), if_pos (by omega), pk_us, Nat.sub_self]
      rfl
    · rw [pk_un q]
      by_cases w : k + 1 ≤ j ∧ j < k + 1 + L.length
      · rw [if_pos w, if_pos (by omega), show j - k = (j - (k + 1)) + 1 by omega]
        rfl
      · rw [if_neg w, if_neg (by omega)]
theorem p_addm_at : ∀ (L : List Int32) (g : ge_G) (k j : Nat), p_addm g k L 86 j = if k ≤ j ∧ j < k + L.length then L.getD (j - k) 0 else g 86 j := by
  intro L
  induction L with
  | nil => intro g k j; rw [if_neg (by simp only [List.length_nil]; omega)]; rfl
  | cons z L ih =>
    intro g k j
    show p_addm (ge_up g 86 k z) (k + 1) L 86 j = _
    rw [ih, ge_up_is]
    simp only [List.length_cons]
    by_cases q : j = k
    · subst q
      rw [if_neg (by omega), if_pos (by omega), pk_us, Nat.sub_self]
      rfl
    · rw [pk_un q]
      by_cases w : k + 1 ≤ j ∧ j < k + 1 + L.length
      · rw [if_pos w, if_pos (by omega), show j - k = (j - (k + 1)) + 1 by omega]
        rfl
      · rw [if_neg w, if_neg (by omega)]
/-- a voice: another trace on both sides -/
theorem st_vo {L : List Int32} (hG : ge_ag ge_SH G (ge_k g 25 r x hb)) (hJ : i_J n g r x f) (e7 : g 77 = r) (e6 : g 76 = f) (hc : ge_N X ge_SH y1 d1 a1 (ge_k g 25 r x hb) (some (.int v)) (ge_k (p_adds (ge_up g 1 1 0) 0 L) 25 r x hb)) (hv : v2 = v)
    (hm : ge_N X ge_SH y2 d2 a2 (ge_m (ge_k (p_adds (ge_up g 1 1 0) 0 L) 25 r x hb) r f) (some (.int v2)) (ge_m (p_addm (ge_k (p_adds (ge_up g 1 1 0) 0 L) 25 r x hb) 0 L) r f1)) (hL : L.length ≤ 40) (hf : f1 4 = f 4 ∧ f1 5 = f 5) (h22 : f1 22 = nI L.length) (hd1 : d1 ≤ 1500) (hd2 : d2 ≤ 1500) : st_is X n G y1 y2 a1 a2 := by
  have ho : ∀ q, q ≠ 1 → q ≠ 2 → p_adds (ge_up g 1 1 0) 0 L q = g q := fun q h1 h2 => by rw [p_adds_o ⟨h1, h2⟩, ge_up_row _ _ _ h1]
  refine st_go hG hc ((ho 77 (by decide) (by decide)).trans e7) ((ho 76 (by decide) (by decide)).trans e6) hv hm (fun q h1 h2 => p_addm_o (by omega) _ _ _) ?_ hd1 hd2
  obtain ⟨⟨V, a1⟩, a2, a3, a4, a5, -, a7, a8⟩ := hJ
  have h : ∀ q, q ≠ 1 → q ≠ 2 → q ≠ 86 → (q < 25 ∨ 34 < q) → q ≠ 76 → q ≠ 77 → ge_m (p_addm (ge_k (p_adds (ge_up g 1 1 0) 0 L) 25 r x hb) 0 L) r f1 q = g q := fun q h1 h2 h3 h4 h5 h6 => by
    rw [ge_m_o _ _ _ h6 h5, p_addm_o h3, ge_k_o _ _ _ _ _ (by omega), ho q h1 h2]
  refine ⟨⟨V, p_ok_P (fun q q1 q2 => h q (by omega) (by omega) (by omega) (by omega) (by omega) (by omega)) a1⟩, i_tape_P (h 58 (by decide) (by decide) (by decide) (by decide) (by decide) (by decide)) (h 59 (by decide) (by decide) (by decide) (by decide) (by decide) (by decide)) a2, i_wait_P (h 62 (by decide) (by decide) (by decide) (by decide) (by decide) (by decide)) (h 63 (by decide) (by decide) (by decide) (by decide) (by decide) (by decide)) a3, fun s hs => i_sh_P hs (fun q hq => h q (by omega) (by omega) (by omega) (by omega) (by omega) (by omega)) (a4 s hs), i_er_P (h 75 (by decide) (by decide) (by decide) (by decide) (by decide) (by decide)) (h 81 (by decide) (by decide) (by decide) (by decide) (by decide) (by decide)) a5, ?_, ?_, a8⟩
  · refine ⟨L.length, hL, h22, ?_, fun k hk => ?_⟩
    · rw [ge_m_o _ _ _ (by decide) (by decide), p_addm_o (by decide), ge_k_o _ _ _ _ _ (by decide), p_adds_1 (g := ge_up g 1 1 0) (k := 0) (ge_up_self _ _ _ _), Nat.zero_add]
    · rw [ge_m_o _ _ _ (by decide) (by decide), p_addm_o (by decide), ge_k_o _ _ _ _ _ (by decide), p_adds_at, ge_m_o _ _ _ (by decide) (by decide), p_addm_at, if_pos (by omega), if_pos (by omega)]
  · obtain ⟨m, q1, q2, q3, q4, q5⟩ := a7
    refine ⟨m, by omega, by rw [hf.2]; exact q2, by rw [h 0 (by decide) (by decide) (by decide) (by decide) (by decide) (by decide)]; exact q3, by rw [hf.1]; exact q4, fun z => ?_⟩
    rw [h 78 (by decide) (by decide) (by decide) (by decide) (by decide) (by decide)]
    exact i_kp_P (fun q hq => h q (by omega) (by omega) (by omega) (by omega) (by omega) (by omega)) (q5 z)
/-- what is fed -/
theorem p_fd_at {w : Int64} {t : Nat} : ∀ N j, j ≠ 4 → p_fd r w t N j = if 74 + t ≤ j ∧ j < 74 + t + N then p_byte w (j - (74 + t)) else r j := by
  intro N
  induction N with
  | zero => intro j hj; rw [if_neg (by omega)]; rfl
  | succ N ih =>
    intro j hj
    show upd (upd (p_fd r w t N) (74 + (t + N)) (p_byte w N)) 4 (nI (t + N + 1)) j = _
    rw [pk_un hj]
    by_cases q : j = 74 + (t + N)
    · subst q
      rw [pk_us, if_pos (by omega), show 74 + (t + N) - (74 + t) = N by omega]
    · rw [pk_un q, ih j hj]
      by_cases z : 74 + t ≤ j ∧ j < 74 + t + N
      · rw [if_pos z, if_pos (by omega)]
      · rw [if_neg z, if_neg (by omega)]
theorem ge_fd_o {w : Int64} {t q : Nat} (h : q ≠ 58 ∧ q ≠ 59) : ∀ N, ge_fd g w t N q = g q := by
  intro N
  induction N with
  | zero => rfl
  | succ N ih =>
    show ge_up (ge_up (ge_fd g w t N) 59 (t + N) (p_byte w N)) 58 1 (nI (t + N + 1)) q = _
    rw [ge_up_row _ _ _ h.1, ge_up_row _ _ _ h.2, ih]
theorem ge_fd_at {w : Int64} {t : Nat} : ∀ N j, ge_fd g w t N 59 j = if t ≤ j ∧ j < t + N then p_byte w (j - t) else g 59 j := by
  intro N
  induction N with
  | zero => intro j; rw [if_neg (by omega)]; rfl
  | succ N ih =>
    intro j
    show ge_up (ge_up (ge_fd g w t N) 59 (t + N) (p_byte w N)) 58 1 (nI (t + N + 1)) 59 j = _
    rw [ge_up_row _ _ _ (by decide), ge_up_is]
    by_cases q : j = t + N
    · subst q
      rw [pk_us, if_pos (by omega), show t + N - t = N by omega]
    · rw [pk_un q, ih j]
      by_cases z : t ≤ j ∧ j < t + N
      · rw [if_pos z, if_pos (by omega)]
      · rw [if_neg z, if_neg (by omega)]
end U30
set_option maxHeartbeats 1000000 in
theorem s_count (h : ge_I n G) (k : Int32) : st_is X n G YX11_count YX12_count [.ref (ge_ad X.1 0), .int k] [.ref (ge_ad X.1 76), .int k] := by
  obtain ⟨g, x, hb, hG, hJ⟩ := h
  obtain ⟨V, hok⟩ := hJ.1
  obtain ⟨E, hE, e2, hEv⟩ := p_ok_E hok
  have hV := hok.2.2.1
  have e3 := hok.2.1
  have hI := hok.1
  have hL := hok.2.2.2.2
  by_cases q : p_in k 0 9 = 0
  · exact st_e0 (k := 1) (by decide) (by decide) hG hJ rfl rfl (c_count_er (p_in_out (N := 9) q (by decide))) (by decide) (m_count_er (p_in_out (N := 9) q (by decide))) (by decide) (by decide)
  · obtain ⟨i, -, hi, rfl⟩ := (p_in_x (lo := 0) (hi := 9) rfl rfl (by decide) (by decide) q)
    obtain ⟨N, -, t1, t2, -⟩ := hJ.2.1
    obtain ⟨M, -, w1, w2, -⟩ := hJ.2.2.1
    obtain ⟨K, -, k1, k2, -⟩ := hJ.2.2.2.2.2.1
    rcases (by omega : i = 0 ∨ i = 1 ∨ i = 2 ∨ i = 3 ∨ i = 4 ∨ i = 5 ∨ i = 6 ∨ i = 7 ∨ i = 8 ∨ i = 9) with rfl | rfl | rfl | rfl | rfl | rfl | rfl | rfl | rfl | rfl
    · exact st_r0 hG hJ rfl rfl (c_count0 hV e3 hE e2) rfl (m_count0 hV e3 hE e2) (by decide) (by decide)
    · exact st_r0 hG hJ rfl rfl (c_count1 hV e3 hE e2) rfl (m_count1 hV e3 hE e2) (by decide) (by decide)
    · exact st_r0 hG hJ rfl rfl (c_count2 hV e3 hE e2) rfl (m_count2 hV e3 hE e2) (by decide) (by decide)
    · exact st_r0 hG hJ rfl rfl (c_count3 hV e3 hE e2) rfl (m_count3 hV e3 hE e2) (by decide) (by decide)
    · exact st_r0 hG hJ rfl rfl (c_count4 hV e3 hE e2) rfl (m_count4 hV e3 hE e2) (by decide) (by decide)
    · exact st_r0 hG hJ rfl rfl (c_count5 hV e3 hE e2) (p_we_ws hV hok.2.2.2.1 E hE).symm (m_count5 hV e3 hE e2) (by decide) (by decide)
    · exact st_r0 hG hJ rfl rfl (c_count6 hV e3 hE e2) (t1.trans t2.symm) (m_count6 hV e3 hE e2) (by decide) (by decide)
    · exact st_r0 hG hJ rfl rfl (c_count7 hV e3 hE e2) (w1.trans w2.symm) (m_count7 hV e3 hE e2) (by decide) (by decide)
    · exact st_r0 hG hJ rfl rfl (c_count8 hV e3 hE e2) (k1.trans k2.symm) (m_count8 hV e3 hE e2) (by decide) (by decide)
    · exact st_r0 hG hJ rfl rfl (c_count9 hV e3 hE e2) rfl (m_count9 hV e3 hE e2) (by decide) (by decide)
set_option maxHeartbeats 1000000 in
theorem s_trace (h : ge_I n G) (i : Int32) : st_is X n G YX11_trace YX12_trace [.ref (ge_ad X.1 0), .int i] [.ref (ge_ad X.1 76), .int i] := by
  obtain ⟨g, x, hb, hG, hJ⟩ := h
  obtain ⟨V, hok⟩ := hJ.1
  obtain ⟨E, hE, e2, hEv⟩ := p_ok_E hok
  have hV := hok.2.2.1
  have e3 := hok.2.1
  have hI := hok.1
  have hL := hok.2.2.2.2
  obtain ⟨K, k0, k1, k2, k3⟩ := hJ.2.2.2.2.2.1
  by_cases q : p_in i 0 (g 76 22 - 1) = 0
  · exact st_e0 (k := 2) (by decide) (by decide) hG hJ rfl rfl (c_trace_er (by rw [p_hold_in, k2, ← k1]; exact q)) (by decide) (m_trace_er q) (by decide) (by decide)
  · obtain ⟨j, hj, ej⟩ := p_in_iE (by omega) k1 q
    exact st_r0 hG hJ rfl rfl (c_trace_ok ej hj k0 k2) (by rw [ge_k_o _ _ _ _ _ (by decide)]; exact (k3 j hj).symm) (m_trace_ok ej hj k0 k1) (by decide) (by decide)
set_option maxHeartbeats 1000000 in
theorem s_tell (h : ge_I n G) (v : Int32) : st_is X n G YX11_tell YX12_tell [.ref (ge_ad X.1 0), .int v] [.ref (ge_ad X.1 76), .int v] := by
  obtain ⟨g, x, hb, hG, hJ⟩ := h
  obtain ⟨V, hok⟩ := hJ.1
  obtain ⟨E, hE, e2, hEv⟩ := p_ok_E hok
  have hV := hok.2.2.1
  have e3 := hok.2.1
  have hI := hok.1
  have hL := hok.2.2.2.2
  obtain ⟨M, w0, w1, w2, w3⟩ := hJ.2.2.1
  by_cases q : M = 20
  · subst q
    exact st_e0 (k := 4) (by decide) (by decide) hG hJ rfl rfl (c_tell_er w2) (by decide) (m_tell_er w1) (by decide) (by decide)
  · have hM : M < 20 := by omega
    refine st_go2 hG (c_tell_ok w2 hM) rfl rfl rfl (m_tell_ok hM w1) (fun _ _ _ => rfl) (ge_ra_lo (fun i hi => by rw [pk_un (by omega), pk_un (by omega)])) (i_J_W ⟨V, p_ok_P (fun q q1 q2 => ?_) (p_ok_lo hok (fun i hi => by rw [pk_un (by omega), pk_un (by omega)]) (fun t ht => ?_))⟩ ?_ ⟨M + 1, by omega, pk_us, ?_, fun k hk => ?_⟩ (fun q hq n1 n2 => ?_) ⟨rfl, rfl, rfl⟩ hJ.2.2.2.2.2.2.2 hJ) (by decide) (by decide)
    · rw [ge_mk_o (by omega) (by omega) (by omega), ge_up_row _ _ _ (by omega), ge_up_row _ _ _ (by omega)]
    · rw [pk_un (by omega), pk_un (by omega)]; exact hI.2.2.2.2.2.2 t ht
    · obtain ⟨N, t0, t1, t2, t3⟩ := hJ.2.1
      refine ⟨N, t0, by rw [pk_un (by omega), pk_un (by omega)]; exact t1, ?_, fun k hk => ?_⟩
      · rw [ge_mk_o (by decide) (by decide) (by decide), ge_up_row _ _ _ (by decide), ge_up_row _ _ _ (by decide)]; exact t2
      · rw [ge_mk_o (by decide) (by decide) (by decide), ge_up_row _ _ _ (by decide), ge_up_row _ _ _ (by decide), pk_un (by omega), pk_un (by omega)]; exact t3 k hk
    · rw [ge_mk_o (by decide) (by decide) (by decide)]; exact ge_up_self _ _ _ _
    · rw [ge_mk_o (by decide) (by decide) (by decide), ge_up_row _ _ _ (by decide), ge_up_is, pk_un (k := 5) (by omega)]
      by_cases e : k = M
      · subst e; rw [pk_us, pk_us]
      · rw [pk_un e, pk_un (by omega)]; exact w3 k (by omega)
    · unfold ge_L at hq
      rw [ge_mk_o (by omega) (by omega) (by omega), ge_up_row _ _ _ (by omega), ge_up_row _ _ _ (by omega)]
set_option maxHeartbeats 1000000 in
theorem s_check (h : ge_I n G) : st_is X n G YX11_check YX12_check [.ref (ge_ad X.1 0)] [.ref (ge_ad X.1 76)] := by
  obtain ⟨g, x, hb, hG, hJ⟩ := h
  obtain ⟨V, hok⟩ := hJ.1
  obtain ⟨E, hE, e2, hEv⟩ := p_ok_E hok
  have hV := hok.2.2.1
  have e3 := hok.2.1
  have hI := hok.1
  have hL := hok.2.2.2.2
  obtain ⟨M, w0, w1, w2, w3⟩ := hJ.2.2.1
  have hy : p_y (g 77) (upd (g 77) 5 0) := fun i hi => pk_un hi
  have hj : p_ju (fun k => g 77 (124 + k)) (p_bh (upd (g 77) 5 0) V) M 0 = p_ju (g 63) (p_bh (g 77) V) M 0 := p_ju_cg M 0 (fun k k1 k2 => by rw [p_y_bh hy, w3 k (by omega)])
  have ok0 : p_ok g (0 + 20) V (g 77) := p_ok_weak hok (by omega)
  refine st_go2 hG (c_check (c := 0) w2 w0 ok0) (by rw [ge_t1_o (by decide), ge_up_row _ _ _ (by decide)]) (by rw [ge_t1_o (by decide), ge_up_row _ _ _ (by decide)]) (by rw [hj]) (m_check (c := 0) w1 w0 ok0.1 hV e3) (fun q h1 h2 => ge_row_ne _ _ (by omega)) (ge_ra_lo (fun i hi => pk_un (by omega))) (i_J_W ⟨V, p_ok_P (fun q q1 q2 => ?_) (p_ok_lo hok (fun i hi => pk_un (by omega)) (fun t ht => ?_))⟩ ?_ ⟨0, by omega, pk_us, ?_, fun k hk => absurd hk (by omega)⟩ (fun q hq n1 n2 => ?_) ⟨p_tb_o (by decide), p_tb_o (by decide), p_tb_o (by decide)⟩ hJ.2.2.2.2.2.2.2 hJ) (by decide) (by decide)
  · rw [ge_m_o _ _ _ (by omega) (by omega), ge_row_ne _ _ (by omega), ge_k_o _ _ _ _ _ (by omega), ge_t1_o (by omega), ge_up_row _ _ _ (by omega)]
  · rw [pk_un (by omega)]; exact hI.2.2.2.2.2.2 t ht
  · obtain ⟨N, t0, t1, t2, t3⟩ := hJ.2.1
    refine ⟨N, t0, by rw [pk_un (by omega)]; exact t1, ?_, fun k hk => ?_⟩
    · rw [ge_m_o _ _ _ (by decide) (by decide), ge_row_ne _ _ (by decide), ge_k_o _ _ _ _ _ (by decide), ge_t1_o (by decide), ge_up_row _ _ _ (by decide)]; exact t2
    · rw [ge_m_o _ _ _ (by decide) (by decide), ge_row_ne _ _ (by decide), ge_k_o _ _ _ _ _ (by decide), ge_t1_o (by decide), ge_up_row _ _ _ (by decide), pk_un (by omega)]; exact t3 k hk
  · rw [ge_m_o _ _ _ (by decide) (by decide), ge_row_ne _ _ (by decide), ge_k_o _ _ _ _ _ (by decide), ge_t1_o (by decide)]; exact ge_up_self _ _ _ _
  · unfold ge_L at hq
    rw [ge_m_o _ _ _ (by omega) (by omega), ge_row_ne _ _ (by omega), ge_k_o _ _ _ _ _ (by omega), ge_t1_o (by omega), ge_up_row _ _ _ (by omega)]
set_option maxHeartbeats 1000000 in
theorem s_restore (hn : n ≤ 512) (h : ge_I n G) : st_is X n G YX11_restore YX12_restore [.ref (ge_ad X.1 0)] [.ref (ge_ad X.1 76)] := by
  obtain ⟨g, x, hb, hG, hJ⟩ := h
  obtain ⟨V, hok⟩ := hJ.1
  obtain ⟨E, hE, e2, hEv⟩ := p_ok_E hok
  have hV := hok.2.2.1
  have e3 := hok.2.1
  have hI := hok.1
  have hL := hok.2.2.2.2
  obtain ⟨m, m1, m2, m3, m4, m5⟩ := hJ.2.2.2.2.2.2.1
  by_cases q : m = 0
  · subst q
    exact st_e0 (k := 2) (by decide) (by decide) hG hJ rfl rfl (c_restore_er m3) (by decide) (m_restore_er m4) (by decide) (by decide)
  · obtain ⟨kw, ⟨V2, kr1, kr2, kr3, kr4⟩, ⟨⟨L0, la1, la2⟩, ⟨L1, lb1, lb2⟩⟩, ⟨N, t0, t1, t2, t3⟩, ⟨M, w0, w1, w2, w3⟩⟩ := m5 q
    obtain ⟨z0, zz0, sa, -⟩ := id la1
    obtain ⟨z1, zz1, sb, -⟩ := id lb1
    have hi : ¬ g 0 14 = 0 := by rw [m3]; exact fun z => q ((nI_eq (by omega) (by decide)).mp (z.trans (show (0 : Int32) = nI 0 from rfl)))
    have h4 : ¬ g 76 4 = 0 := by rw [m4, p_b_n]; exact decide_eq_true q
    have hc := c_restore_ok (X := X) (r := g 77) (x := x) (hb := hb) zz0 zz1 t0 w0 hi kw sa sb t2 w2
    generalize hg1 : ge_rc (ge_rc (ge_rc (ge_rc g 13 20 z0) 15 22 z1) 58 60 N) 62 64 M = g1 at hc
    have ho : ∀ q, ¬ (13 ≤ q ∧ q ≤ 16) → ¬ (q = 58 ∨ q = 59 ∨ q = 62 ∨ q = 63) → g1 q = g q := by
      intro q a b
      rw [← hg1, ge_rc_o (by omega), ge_rc_o (by omega), ge_rc_o (by omega), ge_rc_o (by omega)]
    have h78 : ∀ x1, ge_k g1 25 (g 78) x1 hb 78 = g 78 := fun x1 => by rw [ge_k_o _ _ _ _ _ (by decide), ho 78 (by decide) (by decide)]
    have hm := m_restore_ok (X := X) (g := ge_k g1 25 (g 78) (p_x0 (ge_k g 25 (g 77) x hb 25)) hb) (r := g 77) (f := g 76) h4
    rw [h78] at hm
    refine st_go hG hc (ho 77 (by decide) (by decide)) (ho 76 (by decide) (by decide)) rfl hm (fun _ _ _ => rfl) (i_J_W ⟨V2, kr1, kr2, kr3, kr4, ⟨L0, c_law_c la1 sa zz0 ?_ (fun k hk => ?_), la2⟩, ⟨L1, c_law_c lb1 sb zz1 ?_ (fun k hk => ?_), lb2⟩⟩ ⟨N, t0, t1, ?_, fun k hk => ?_⟩ ⟨M, w0, w1, ?_, fun k hk => ?_⟩ (fun q hq n1 n2 => ?_) ⟨rfl, rfl, rfl⟩ rfl hJ) (by decide) (by decide)
    · rw [ge_mk_o (by decide) (by decide) (by decide), ← hg1, ge_rc_o (by decide), ge_rc_o (by decide), ge_rc_o (by decide)]; exact ge_rc_1
    · rw [ge_mk_o (by decide) (by decide) (by decide), ← hg1, ge_rc_o (by decide), ge_rc_o (by decide), ge_rc_o (by decide)]; exact ge_rc_c hk
    · rw [ge_mk_o (by decide) (by decide) (by decide), ← hg1, ge_rc_o (by decide), ge_rc_o (by decide)]; exact ge_rc_1
    · rw [ge_mk_o (by decide) (by decide) (by decide), ← hg1, ge_rc_o (by decide), ge_rc_o (by decide), ge_rc_c hk, ge_rc_o (by decide)]
    · rw [ge_mk_o (by decide) (by decide) (by decide), ← hg1, ge_rc_o (by decide)]; exact ge_rc_1
    · rw [ge_mk_o (by decide) (by decide) (by decide), ← hg1, ge_rc_o (by decide), ge_rc_c hk, ge_rc_o (by decide), ge_rc_o (by decide)]; exact t3 k hk
    · rw [ge_mk_o (by decide) (by decide) (by decide), ← hg1]; exact ge_rc_1
    · rw [ge_mk_o (by decide) (by decide) (by decide), ← hg1, ge_rc_c hk, ge_rc_o (by decide), ge_rc_o (by decide), ge_rc_o (by decide)]; exact w3 k hk
    · unfold ge_L at hq
      rw [ge_mk_o (by omega) (by omega) (by omega)]; exact ho q n1 n2
set_option maxHeartbeats 1000000 in
theorem s_image (h : ge_I n G) : st_is X n G YX11_image YX12_image [.ref (ge_ad X.1 0)] [.ref (ge_ad X.1 76)] := by
  obtain ⟨g, x, hb, hG, hJ⟩ := h
  obtain ⟨V, hok⟩ := hJ.1
  obtain ⟨E, hE, e2, hEv⟩ := p_ok_E hok
  have hV := hok.2.2.1
  have e3 := hok.2.1
  have hI := hok.1
  have hL := hok.2.2.2.2
  obtain ⟨⟨L0, la1, la2⟩, ⟨L1, lb1, lb2⟩⟩ := id hL
  obtain ⟨N, t0, t1, t2, t3⟩ := id hJ.2.1
  obtain ⟨M, w0, w1, w2, w3⟩ := id hJ.2.2.1
  obtain ⟨m, m1, m2, m3, m4, m5⟩ := hJ.2.2.2.2.2.2.1
  obtain ⟨z0, zz0, sa, -⟩ := id la1
  obtain ⟨z1, zz1, sb, -⟩ := id lb1
  have hc := c_image (X := X) (r := g 77) (x := x) (hb := hb) zz0 zz1 t0 w0 sa sb t2 w2
  generalize hg1 : ge_up (ge_rc (ge_rc (ge_rc (ge_rc (ge_k g 45 (g 77) (p_x0 (g 45)) (g 54)) 20 13 z0) 22 15 z1) 60 58 N) 64 62 M) 0 14 (g 0 14 + 1) = g1 at hc
  have ho : ∀ q, q ≠ 0 → ¬ (20 ≤ q ∧ q ≤ 23) → ¬ (q = 60 ∨ q = 61 ∨ q = 64 ∨ q = 65) → ¬ (45 ≤ q ∧ q ≤ 54) → g1 q = g q := by
    intro q a b c d
    rw [← hg1, ge_up_row _ _ _ a, ge_rc_o (by omega), ge_rc_o (by omega), ge_rc_o (by omega), ge_rc_o (by omega), ge_k_o _ _ _ _ _ (by omega)]
  have hm := m_image (X := X) (g := ge_k g1 25 (g 77) x hb) (r := g 77) (f := g 76)
  refine st_go hG hc (ho 77 (by decide) (by decide) (by decide) (by decide)) (ho 76 (by decide) (by decide) (by decide) (by decide)) (by rw [m2, m3]) hm (fun q h1 h2 => ge_row_ne _ _ (by omega)) ?_ (by decide) (by decide)
  have h : ∀ q, q ≠ 0 → ¬ (20 ≤ q ∧ q ≤ 23) → ¬ (q = 60 ∨ q = 61 ∨ q = 64 ∨ q = 65) → ¬ (45 ≤ q ∧ q ≤ 54) → ¬ (25 ≤ q ∧ q ≤ 34) → ¬ (q = 76 ∨ q = 77 ∨ q = 78) → ge_m (ge_row (ge_k g1 25 (g 77) x hb) 78 (g 77)) (g 77) (upd (upd (g 76) 4 1) 5 (g 76 5 + 1)) q = g q := fun q a b c d e f => by
    rw [ge_m_o _ _ _ (by omega) (by omega), ge_row_ne _ _ (by omega), ge_k_o _ _ _ _ _ (by omega), ho q a b c d]
  have h78 : ge_m (ge_row (ge_k g1 25 (g 77) x hb) 78 (g 77)) (g 77) (upd (upd (g 76) 4 1) 5 (g 76 5 + 1)) 78 = g 77 := by rw [ge_m_o _ _ _ (by decide) (by decide), ge_row_self]
  obtain ⟨-, a2, a3, a4, a5, a6, -, a8⟩ := hJ
  have hD : ∀ q, q = 58 ∨ q = 59 ∨ q = 62 ∨ q = 63 ∨ q = 75 ∨ q = 81 → _ := fun q hq => h q (by omega) (by omega) (by omega) (by omega) (by omega) (by omega)
  refine ⟨⟨V, p_ok_P (fun q q1 q2 => h q (by omega) (by omega) (by omega) (by omega) (by omega) (by omega)) hok⟩, i_tape_P (hD 58 (by omega)) (hD 59 (by omega)) a2, i_wait_P (hD 62 (by omega)) (hD 63 (by omega)) a3, fun s hs => i_sh_P hs (fun q hq => h q (by omega) (by omega) (by omega) (by omega) (by omega) (by omega)) (a4 s hs), i_er_P (hD 75 (by omega)) (hD 81 (by omega)) a5, ?_, ⟨m + 1, by omega, ?_, ?_, ?_, fun _ => ?_⟩, a8⟩
  · obtain ⟨K, k0, k1, k2, k3⟩ := a6
    refine ⟨K, k0, k1, ?_, fun k hk => ?_⟩
    · rw [h 1 (by decide) (by decide) (by decide) (by decide) (by decide) (by decide)]; exact k2
    · rw [h 2 (by decide) (by decide) (by decide) (by decide) (by decide) (by decide), h 86 (by decide) (by decide) (by decide) (by decide) (by decide) (by decide)]; exact k3 k hk
  · rw [pk_us, m2, nI_1]
  · rw [ge_m_o _ _ _ (by decide) (by decide), ge_row_ne _ _ (by decide), ge_k_o _ _ _ _ _ (by decide), ← hg1, ge_up_self, m3, nI_1]
  · rw [pk_un (by decide), pk_us]; rfl
  · rw [h78]
    refine ⟨?_, ⟨V, hI, e3, hV, hok.2.2.2.1⟩, ⟨⟨L0, c_law_c la1 sa zz0 ?_ (fun k hk => ?_), la2⟩, ⟨L1, c_law_c lb1 sb zz1 ?_ (fun k hk => ?_), lb2⟩⟩, ⟨N, t0, t1, ?_, fun k hk => ?_⟩, ⟨M, w0, w1, ?_, fun k hk => ?_⟩⟩
    · have hk : ∀ q, 45 ≤ q → q ≤ 54 → ge_m (ge_row (ge_k g1 25 (g 77) x hb) 78 (g 77)) (g 77) (upd (upd (g 76) 4 1) 5 (g 76 5 + 1)) q = ge_k g 45 (g 77) (p_x0 (g 45)) (g 54) q := fun q h1 h2 => by
        rw [ge_m_o _ _ _ (by omega) (by omega), ge_row_ne _ _ (by omega), ge_k_o _ _ _ _ _ (by omega), ← hg1, ge_up_row _ _ _ (by omega), ge_rc_o (by omega), ge_rc_o (by omega), ge_rc_o (by omega), ge_rc_o (by omega)]
      have := ge_wr_k (g := g) (r := g 77) (x := p_x0 (g 45)) (hb := g 54) 45
      unfold ge_wr at *
      rw [hk 45 (by decide) (by decide), hk (45 + 1) (by decide) (by decide), hk (45 + 2) (by decide) (by decide), hk (45 + 3) (by decide) (by decide), hk (45 + 4) (by decide) (by decide), hk (45 + 5) (by decide) (by decide), hk (45 + 6) (by decide) (by decide), hk (45 + 7) (by decide) (by decide), hk (45 + 8) (by decide) (by decide)]
      exact this
    · rw [ge_m_o _ _ _ (by decide) (by decide), ge_row_ne _ _ (by decide), ge_k_o _ _ _ _ _ (by decide), ← hg1, ge_up_row _ _ _ (by decide), ge_rc_o (by decide), ge_rc_o (by decide), ge_rc_o (by decide)]; exact ge_rc_1
    · rw [ge_m_o _ _ _ (by decide) (by decide), ge_row_ne _ _ (by decide), ge_k_o _ _ _ _ _ (by decide), ← hg1, ge_up_row _ _ _ (by decide), ge_rc_o (by decide), ge_rc_o (by decide), ge_rc_o (by decide), ge_rc_c hk, ge_k_o _ _ _ _ _ (by decide)]
    · rw [ge_m_o _ _ _ (by decide) (by decide), ge_row_ne _ _ (by decide), ge_k_o _ _ _ _ _ (by decide), ← hg1, ge_up_row _ _ _ (by decide), ge_rc_o (by decide), ge_rc_o (by decide)]; exact ge_rc_1
    · rw [ge_m_o _ _ _ (by decide) (by decide), ge_row_ne _ _ (by decide), ge_k_o _ _ _ _ _ (by decide), ← hg1, ge_up_row _ _ _ (by decide), ge_rc_o (by decide), ge_rc_o (by decide), ge_rc_c hk, ge_rc_o (by decide), ge_k_o _ _ _ _ _ (by decide)]
    · rw [ge_m_o _ _ _ (by decide) (by decide), ge_row_ne _ _ (by decide), ge_k_o _ _ _ _ _ (by decide), ← hg1, ge_up_row _ _ _ (by decide), ge_rc_o (by decide)]; exact ge_rc_1
    · rw [ge_m_o _ _ _ (by decide) (by decide), ge_row_ne _ _ (by decide), ge_k_o _ _ _ _ _ (by decide), ← hg1, ge_up_row _ _ _ (by decide), ge_rc_o (by decide), ge_rc_c hk, ge_rc_o (by decide), ge_rc_o (by decide), ge_k_o _ _ _ _ _ (by decide)]; exact t3 k hk
    · rw [ge_m_o _ _ _ (by decide) (by decide), ge_row_ne _ _ (by decide), ge_k_o _ _ _ _ _ (by decide), ← hg1, ge_up_row _ _ _ (by decide)]; exact ge_rc_1
    · rw [ge_m_o _ _ _ (by decide) (by decide), ge_row_ne _ _ (by decide), ge_k_o _ _ _ _ _ (by decide), ← hg1, ge_up_row _ _ _ (by decide), ge_rc_c hk, ge_rc_o (by decide), ge_rc_o (by decide), ge_rc_o (by decide), ge_k_o _ _ _ _ _ (by decide)]; exact w3 k hk
set_option maxHeartbeats 1000000 in
theorem s_voice (h : ge_I n G) (e a v : Int32) : st_is X n G YX11_voice YX12_voice [.ref (ge_ad X.1 0), .int e, .int a, .int v] [.ref (ge_ad X.1 76), .int e, .int a, .int v] := by
  obtain ⟨g, x, hb, hG, hJ⟩ := h
  obtain ⟨V, hok⟩ := hJ.1
  obtain ⟨E, hE, e2, hEv⟩ := p_ok_E hok
  have hV := hok.2.2.1
  have e3 := hok.2.1
  have hI := hok.1
  have hL := hok.2.2.2.2
  by_cases q : p_in e 0 (g 77 2 - 1) = 0 ∨ p_in a 0 3 = 0
  · exact st_e0 (k := 1) (by decide) (by decide) hG hJ rfl rfl (c_voice_er q) (by decide) (m_voice_er q) (by decide) (by decide)
  · obtain ⟨j, hj, ej⟩ := p_in_iE (by omega) e2 (fun z => q (Or.inl z))
    obtain ⟨i, -, hi, rfl⟩ := (p_in_x (lo := 0) (hi := 3) rfl rfl (by decide) (by decide) (fun z => q (Or.inr z)))
    obtain ⟨⟨k, hk, ek⟩, -, -, -⟩ := hI.2.2.2.2.1 j (by omega)
    rcases (by omega : k = 0 ∨ k = 1 ∨ k = 2 ∨ k = 3 ∨ k = 4 ∨ k = 5 ∨ k = 6) with rfl | rfl | rfl | rfl | rfl | rfl | rfl
    · rcases (by omega : i = 0 ∨ i = 1 ∨ i = 2 ∨ i = 3) with rfl | rfl | rfl | rfl
      · exact st_vo hG hJ rfl rfl (c_voice_0_0 ej hj hE e2 ek) rfl (m_voice_0_0 ej hj hE e2 ek) (by decide) ⟨rfl, rfl⟩ rfl (by decide) (by decide)
      · exact st_vo hG hJ rfl rfl (c_voice_0_1 ej hj hE e2 ek) rfl (m_voice_0_1 ej hj hE e2 ek) (by decide) ⟨rfl, rfl⟩ rfl (by decide) (by decide)
      · exact st_vo hG hJ rfl rfl (c_voice_0_2 ej hj hE e2 ek) rfl (m_voice_0_2 ej hj hE e2 ek) (by decide) ⟨rfl, rfl⟩ rfl (by decide) (by decide)
      · exact st_vo hG hJ rfl rfl (c_voice_0_3 ej hj hE e2 ek) rfl (m_voice_0_3 ej hj hE e2 ek) (by decide) ⟨rfl, rfl⟩ rfl (by decide) (by decide)
    · rcases (by omega : i = 0 ∨ i = 1 ∨ i = 2 ∨ i = 3) with rfl | rfl | rfl | rfl
      · exact st_vo hG hJ rfl rfl (c_voice_1_0 ej hj hE e2 ek) rfl (m_voice_1_0 ej hj hE e2 ek) (by decide) ⟨rfl, rfl⟩ rfl (by decide) (by decide)
      · exact st_vo hG hJ rfl rfl (c_voice_1_1 ej hj hE e2 ek) rfl (m_voice_1_1 ej hj hE e2 ek) (by decide) ⟨rfl, rfl⟩ rfl (by decide) (by decide)
      · exact st_vo hG hJ rfl rfl (c_voice_1_2 ej hj hE e2 ek) rfl (m_voice_1_2 ej hj hE e2 ek) (by decide) ⟨rfl, rfl⟩ rfl (by decide) (by decide)
      · exact st_vo hG hJ rfl rfl (c_voice_1_3 ej hj hE e2 ek) rfl (m_voice_1_3 ej hj hE e2 ek) (by decide) ⟨rfl, rfl⟩ rfl (by decide) (by decide)
    · rcases (by omega : i = 0 ∨ i = 1 ∨ i = 2 ∨ i = 3) with rfl | rfl | rfl | rfl
      · exact st_vo hG hJ rfl rfl (c_voice_2_0 ej hj hE e2 ek) rfl (m_voice_2_0 ej hj hE e2 ek) (by decide) ⟨rfl, rfl⟩ rfl (by decide) (by decide)
      · exact st_vo hG hJ rfl rfl (c_voice_2_1 ej hj hE e2 ek) rfl (m_voice_2_1 ej hj hE e2 ek) (by decide) ⟨rfl, rfl⟩ rfl (by decide) (by decide)
      · exact st_vo hG hJ rfl rfl (c_voice_2_2 ej hj hE e2 ek) rfl (m_voice_2_2 ej hj hE e2 ek) (by decide) ⟨rfl, rfl⟩ rfl (by decide) (by decide)
      · exact st_vo hG hJ rfl rfl (c_voice_2_3 ej hj hE e2 ek) rfl (m_voice_2_3 ej hj hE e2 ek) (by decide) ⟨rfl, rfl⟩ rfl (by decide) (by decide)
    · rcases (by omega : i = 0 ∨ i = 1 ∨ i = 2 ∨ i = 3) with rfl | rfl | rfl | rfl
      · exact st_vo hG hJ rfl rfl (c_voice_3_0 ej hj hE e2 ek) rfl (m_voice_3_0 ej hj hE e2 ek) (by decide) ⟨rfl, rfl⟩ rfl (by decide) (by decide)
      · exact st_vo hG hJ rfl rfl (c_voice_3_1 ej hj hE e2 ek) rfl (m_voice_3_1 ej hj hE e2 ek) (by decide) ⟨rfl, rfl⟩ rfl (by decide) (by decide)
      · exact st_vo hG hJ rfl rfl (c_voice_3_2 ej hj hE e2 ek) rfl (m_voice_3_2 ej hj hE e2 ek) (by decide) ⟨rfl, rfl⟩ rfl (by decide) (by decide)
      · exact st_vo hG hJ rfl rfl (c_voice_3_3 ej hj hE e2 ek) rfl (m_voice_3_3 ej hj hE e2 ek) (by decide) ⟨rfl, rfl⟩ rfl (by decide) (by decide)
    · rcases (by omega : i = 0 ∨ i = 1 ∨ i = 2 ∨ i = 3) with rfl | rfl | rfl | rfl
      · exact st_vo hG hJ rfl rfl (c_voice_4_0 ej hj hE e2 ek) rfl (m_voice_4_0 ej hj hE e2 ek) (by decide) ⟨rfl, rfl⟩ rfl (by decide) (by decide)
      · exact st_vo hG hJ rfl rfl (c_voice_4_1 ej hj hE e2 ek) rfl (m_voice_4_1 ej hj hE e2 ek) (by decide) ⟨rfl, rfl⟩ rfl (by decide) (by decide)
      · exact st_vo hG hJ rfl rfl (c_voice_4_2 ej hj hE e2 ek) rfl (m_voice_4_2 ej hj hE e2 ek) (by decide) ⟨rfl, rfl⟩ rfl (by decide) (by decide)
      · exact st_vo hG hJ rfl rfl (c_voice_4_3 ej hj hE e2 ek) rfl (m_voice_4_3 ej hj hE e2 ek) (by decide) ⟨rfl, rfl⟩ rfl (by decide) (by decide)
    · rcases (by omega : i = 0 ∨ i = 1 ∨ i = 2 ∨ i = 3) with rfl | rfl | rfl | rfl
      · exact st_vo hG hJ rfl rfl (c_voice_5_0 ej hj hE e2 ek) rfl (m_voice_5_0 ej hj hE e2 ek) (by decide) ⟨rfl, rfl⟩ rfl (by decide) (by decide)
      · exact st_vo hG hJ rfl rfl (c_voice_5_1 ej hj hE e2 ek) rfl (m_voice_5_1 ej hj hE e2 ek) (by decide) ⟨rfl, rfl⟩ rfl (by decide) (by decide)
      · exact st_vo hG hJ rfl rfl (c_voice_5_2 ej hj hE e2 ek) rfl (m_voice_5_2 ej hj hE e2 ek) (by decide) ⟨rfl, rfl⟩ rfl (by decide) (by decide)
      · exact st_vo hG hJ rfl rfl (c_voice_5_3 ej hj hE e2 ek) rfl (m_voice_5_3 ej hj hE e2 ek) (by decide) ⟨rfl, rfl⟩ rfl (by decide) (by decide)
    · rcases (by omega : i = 0 ∨ i = 1 ∨ i = 2 ∨ i = 3) with rfl | rfl | rfl | rfl
      · exact st_vo hG hJ rfl rfl (c_voice_6_0 ej hj hE e2 ek) rfl (m_voice_6_0 ej hj hE e2 ek) (by decide) ⟨rfl, rfl⟩ rfl (by decide) (by decide)
      · exact st_vo hG hJ rfl rfl (c_voice_6_1 ej hj hE e2 ek) rfl (m_voice_6_1 ej hj hE e2 ek) (by decide) ⟨rfl, rfl⟩ rfl (by decide) (by decide)
      · exact st_vo hG hJ rfl rfl (c_voice_6_2 ej hj hE e2 ek) rfl (m_voice_6_2 ej hj hE e2 ek) (by decide) ⟨rfl, rfl⟩ rfl (by decide) (by decide)
      · exact st_vo hG hJ rfl rfl (c_voice_6_3 ej hj hE e2 ek) rfl (m_voice_6_3 ej hj hE e2 ek) (by decide) ⟨rfl, rfl⟩ rfl (by decide) (by decide)
set_option maxHeartbeats 1000000 in
theorem s_feed (h : ge_I n G) (w : Int64) (m : Int32) : st_is X n G YX11_feed YX12_feed [.ref (ge_ad X.1 0), .long w, .int m] [.ref (ge_ad X.1 76), .long w, .int m] := by
  obtain ⟨g, x, hb, hG, hJ⟩ := h
  obtain ⟨V, hok⟩ := hJ.1
  obtain ⟨E, hE, e2, hEv⟩ := p_ok_E hok
  have hV := hok.2.2.1
  have e3 := hok.2.1
  have hI := hok.1
  have hL := hok.2.2.2.2
  obtain ⟨t, t0, t1, t2, t3⟩ := id hJ.2.1
  obtain ⟨M, w0, w1, w2, w3⟩ := id hJ.2.2.1
  by_cases q : p_in m 1 8 = 0
  · exact st_e0 (k := 1) (by decide) (by decide) hG hJ rfl rfl (c_feed_er q) (by decide) (m_feed_er q) (by decide) (by decide)
  · obtain ⟨N, h1, h2, eN⟩ := (p_in_x (lo := 1) (hi := 8) rfl rfl (by decide) (by decide) q)
    by_cases hh : t + N ≤ 50
    · refine st_go2 hG (c_feed_ok eN h1 h2 hh t2) (ge_fd_o (by decide) N) (ge_fd_o (by decide) N) rfl (m_feed_ok eN h1 h2 hh t1) (fun _ _ _ => rfl) (ge_ra_lo (fun i hi => by rw [p_fd_at N i (by omega), if_neg (by omega)])) (i_J_W ⟨V, p_ok_P (fun q q1 q2 => ?_) (p_ok_lo hok (fun i hi => by rw [p_fd_at N i (by omega), if_neg (by omega)]) (fun t ht => ?_))⟩ ⟨t + N, hh, p_fd_4 t1 N, ?_, fun k hk => ?_⟩ ⟨M, w0, ?_, ?_, fun k hk => ?_⟩ (fun q hq n1 n2 => ?_) ⟨rfl, rfl, rfl⟩ hJ.2.2.2.2.2.2.2 hJ) (by decide) (by decide)
      · rw [ge_mk_o (by omega) (by omega) (by omega), ge_fd_o (by omega)]
      · rw [p_fd_at N _ (by omega), if_neg (by omega)]; exact hI.2.2.2.2.2.2 t ht
      · rw [ge_mk_o (by decide) (by decide) (by decide)]; exact ge_fd_58 t2 N
      · rw [ge_mk_o (by decide) (by decide) (by decide), ge_fd_at, p_fd_at N _ (by omega)]
        by_cases z : t ≤ k ∧ k < t + N
        · rw [if_pos z, if_pos (by omega), show 74 + k - (74 + t) = k - t by omega]
        · rw [if_neg z, if_neg (by omega)]; exact t3 k (by omega)
      · rw [p_fd_at N _ (by omega), if_neg (by omega)]; exact w1
      · rw [ge_mk_o (by decide) (by decide) (by decide), ge_fd_o (by decide)]; exact w2
      · rw [ge_mk_o (by decide) (by decide) (by decide), ge_fd_o (by decide), p_fd_at N _ (by omega), if_neg (by omega)]; exact w3 k hk
      · unfold ge_L at hq
        rw [ge_mk_o (by omega) (by omega) (by omega), ge_fd_o (by omega)]
    · have hn : ¬ nI t + m ≤ 50 := by rw [eN, nI_add]; exact fun z => hh ((nI_leI (b := 50) (by omega) (by decide)).mp z)
      exact st_e0 (k := 4) (by decide) (by decide) hG hJ rfl rfl (c_feed_fu q (by rw [t2]; exact hn)) (by decide) (m_feed_fu q (by rw [t1]; exact hn)) (by decide) (by decide)
end U3
