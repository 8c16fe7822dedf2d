section U1
variable {X : ge_X} {n : Nat} {G : ge_G} {c V E : Nat}
set_option maxHeartbeats 1000000 in
theorem s_dread (h : ge_I n G) (t v : Int32) : st_is X n G YX11_dread YX12_dread [.ref (ge_ad X.1 0), .int t, .int v] [.ref (ge_ad X.1 76), .int t, .int v] := by
  obtain ⟨g, x, hb, hG, hJ⟩ := h
  obtain ⟨V, hok⟩ := hJ.1
  obtain ⟨E, hE, e2, hEv⟩ := p_ok_E hok
  have hV := hok.2.2.1
  have e3 := hok.2.1
  have hI := hok.1
  have hL := hok.2.2.2.2
  by_cases q : p_in t 0 9 = 0 ∨ p_in v 0 9 = 0
  · exact st_e0 (k := 1) (by decide) (by decide) hG hJ rfl rfl (c_dread_er q) (by decide) (m_dread_er q) (by decide) (by decide)
  · obtain ⟨a, -, ha, ea⟩ := (p_in_x (lo := 0) (hi := 9) rfl rfl (by decide) (by decide) (fun z => q (Or.inl z)))
    obtain ⟨b, -, hb1, eb⟩ := (p_in_x (lo := 0) (hi := 9) rfl rfl (by decide) (by decide) (fun z => q (Or.inr z)))
    exact st_rw hG hJ rfl rfl (c_dread_ok ea ha eb hb1) rfl rfl (m_dread_ok ea ha eb hb1) ⟨V, by rw [eb]; exact p_ok_dread hok ha hb1⟩ (pk_un (by omega)) (pk_un (by omega)) (fun i _ _ => pk_un (by omega)) ⟨rfl, rfl, rfl⟩ hJ.2.2.2.2.2.2.2 (by decide) (by decide)
set_option maxHeartbeats 1000000 in
theorem s_eye (h : ge_I n G) (k v : Int32) : st_is X n G YX11_eye YX12_eye [.ref (ge_ad X.1 0), .int k, .int v] [.ref (ge_ad X.1 76), .int k, .int v] := by
  obtain ⟨g, x, hb, hG, hJ⟩ := h
  obtain ⟨V, hok⟩ := hJ.1
  obtain ⟨E, hE, e2, hEv⟩ := p_ok_E hok
  have hV := hok.2.2.1
  have e3 := hok.2.1
  have hI := hok.1
  have hL := hok.2.2.2.2
  by_cases q : p_in k 0 69 = 0 ∨ p_in v 0 9 = 0
  · exact st_e0 (k := 1) (by decide) (by decide) hG hJ rfl rfl (c_eye_er q) (by decide) (m_eye_er q) (by decide) (by decide)
  · obtain ⟨a, -, ha, ea⟩ := (p_in_x (lo := 0) (hi := 69) rfl rfl (by decide) (by decide) (fun z => q (Or.inl z)))
    obtain ⟨b, -, hb1, eb⟩ := (p_in_x (lo := 0) (hi := 9) rfl rfl (by decide) (by decide) (fun z => q (Or.inr z)))
    by_cases q8 : E = 8
    · subst q8
      exact st_e0 (k := 4) (by decide) (by decide) hG hJ rfl rfl (c_eye_fu (fun z => q (Or.inl z)) (fun z => q (Or.inr z)) e2) (by decide) (m_eye_fu (fun z => q (Or.inl z)) (fun z => q (Or.inr z)) e2) (by decide) (by decide)
    · have hE8 : E < 8 := by omega
      obtain ⟨k1, k2⟩ := p_div10 ha
      have lo : ∀ i, (i < 18 ∨ 50 ≤ i) → i ≠ 2 → upd (p_addE (g 77) E (k / 10) (p_rem k 10) v) 2 (nI (E + 1)) i = g 77 i := fun i hi h2 => by unfold p_addE p_ue; rw [pk_un h2, pk_un (by omega), pk_un (by omega), pk_un (by omega), pk_un (by omega)]
      exact st_rw hG hJ rfl rfl (c_eye_ok ea ha eb hb1 hE8 e2) rfl rfl (m_eye_ok ea ha eb hb1 hE8 e2) ⟨V, p_ok_addE hok hE8 e2 (by rw [ea]; exact k1) (by rw [ea]; exact k2) ⟨b, hb1, eb⟩⟩ (lo 4 (by omega) (by omega)) (lo 5 (by omega) (by omega)) (fun i h1 _ => lo i (by omega) (by omega)) ⟨rfl, rfl, rfl⟩ hJ.2.2.2.2.2.2.2 (by decide) (by decide)
theorem p_in_out {k : Int32} {N : Nat} (h : p_in k 0 (nI N) = 0) (hN : N < 2 ^ 31) : k.toInt < 0 ∨ (N : Int) < k.toInt := by
  unfold p_in at h
  by_cases h1 : k < 0
  · left; have := Int32.lt_iff_toInt_lt.mp h1; simpa using this
  · rw [if_neg h1] at h
    by_cases h2 : nI N < k
    · right
      have := Int32.lt_iff_toInt_lt.mp h2
      rwa [nI_toInt hN] at this
    · rw [if_neg h2] at h; exact absurd h (by decide)
set_option maxHeartbeats 1000000 in
theorem s_ofEye (h : ge_I n G) (e k : Int32) : st_is X n G YX11_ofEye YX12_ofEye [.ref (ge_ad X.1 0), .int e, .int k] [.ref (ge_ad X.1 76), .int e, .int k] := by
  obtain ⟨g, x, hb, hG, hJ⟩ := h
  obtain ⟨V, hok⟩ := hJ.1
  obtain ⟨E, hE, e2, hEv⟩ := p_ok_E hok
  have hV := hok.2.2.1
  have e3 := hok.2.1
  have hI := hok.1
  have hL := hok.2.2.2.2
  by_cases q : p_in e 0 (g 77 2 - 1) = 0
  · exact st_e0 (k := 1) (by decide) (by decide) hG hJ rfl rfl (c_ofEye_er1 q) (by decide) (m_ofEye_er (Or.inl q)) (by decide) (by decide)
  · obtain ⟨j, hj, ej⟩ := p_in_iE (by omega) e2 q
    by_cases q2 : p_in k 0 6 = 0
    · exact st_e0 (k := 1) (by decide) (by decide) hG hJ rfl rfl (c_ofEye_er2 q (p_in_out (N := 6) q2 (by decide))) (by decide) (m_ofEye_er (Or.inr q2)) (by decide) (by decide)
    · obtain ⟨i, -, hi, rfl⟩ := (p_in_x (lo := 0) (hi := 6) rfl rfl (by decide) (by decide) q2)
      rcases (by omega : i = 0 ∨ i = 1 ∨ i = 2 ∨ i = 3 ∨ i = 4 ∨ i = 5 ∨ i = 6) with rfl | rfl | rfl | rfl | rfl | rfl | rfl
      · exact st_r0 hG hJ rfl rfl (c_ofEye_ok0 hI hL ej hj hE e2 hV e3) rfl (m_ofEye_ok0 hI ej hj hE e2 hV e3) (by decide) (by decide)
      · exact st_r0 hG hJ rfl rfl (c_ofEye_ok1 hI hL ej hj hE e2 hV e3) rfl (m_ofEye_ok1 hI ej hj hE e2 hV e3) (by decide) (by decide)
      · exact st_r0 hG hJ rfl rfl (c_ofEye_ok2 hI hL ej hj hE e2 hV e3) rfl (m_ofEye_ok2 hI ej hj hE e2 hV e3) (by decide) (by decide)
      · exact st_r0 hG hJ rfl rfl (c_ofEye_ok3 hI hL ej hj hE e2 hV e3) rfl (m_ofEye_ok3 hI ej hj hE e2 hV e3) (by decide) (by decide)
      · exact st_r0 hG hJ rfl rfl (c_ofEye_ok4 hI hL ej hj hE e2 hV e3) (by rw [ej]; exact (p_sk_wb hV hok.2.2.2.1 (by omega)).1.symm) (m_ofEye_ok4 hI ej hj hE e2 hV e3) (by decide) (by decide)
      · exact st_r0 hG hJ rfl rfl (c_ofEye_ok5 hI hL ej hj hE e2 hV e3) rfl (m_ofEye_ok5 hI ej hj hE e2 hV e3) (by decide) (by decide)
      · exact st_r0 hG hJ rfl rfl (c_ofEye_ok6 hI hL ej hj hE e2 hV e3) rfl (m_ofEye_ok6 hI ej hj hE e2 hV e3) (by decide) (by decide)
set_option maxHeartbeats 1000000 in
theorem s_change (h : ge_I n G) (e k v : Int32) : st_is X n G YX11_change YX12_change [.ref (ge_ad X.1 0), .int e, .int k, .int v] [.ref (ge_ad X.1 76), .int e, .int k, .int v] := by
  obtain ⟨g, x, hb, hG, hJ⟩ := h
  obtain ⟨V, hok⟩ := hJ.1
  obtain ⟨E, hE, e2, hEv⟩ := p_ok_E hok
  have hV := hok.2.2.1
  have e3 := hok.2.1
  have hI := hok.1
  have hL := hok.2.2.2.2
  by_cases q : p_in e 0 (g 77 2 - 1) = 0 ∨ p_in k 0 1 = 0 ∨ (k = 0 ∧ p_in v 0 9 = 0) ∨ (¬ k = 0 ∧ p_in v 0 9999 = 0)
  · exact st_e0 (k := 1) (by decide) (by decide) hG hJ rfl rfl (c_change_er q) (by decide) (m_change_er q) (by decide) (by decide)
  · obtain ⟨j, hj, ej⟩ := p_in_iE (by omega) e2 (fun z => q (Or.inl z))
    obtain ⟨i, -, hi, ek⟩ := (p_in_x (lo := 0) (hi := 1) rfl rfl (by decide) (by decide) (fun z => q (Or.inr (Or.inl z))))
    rcases (by omega : i = 0 ∨ i = 1) with rfl | rfl
    · subst ek
      obtain ⟨b, -, hb1, eb⟩ := (p_in_x (lo := 0) (hi := 9) rfl rfl (by decide) (by decide) (fun z => q (Or.inr (Or.inr (Or.inl ⟨rfl, z⟩)))))
      exact st_rw hG hJ rfl rfl (c_change_ok0 ej hj hE e2 eb hb1) rfl rfl (m_change_ok0 ej hj hE e2 eb hb1) ⟨V, p_ok_ue hok (by omega) (by decide) ⟨fun z => by omega, fun z => by omega, fun _ => ⟨b, hb1, eb⟩, fun z => by omega⟩⟩ (pk_un (by omega)) (pk_un (by omega)) (fun i _ _ => pk_un (by omega)) ⟨rfl, rfl, rfl⟩ hJ.2.2.2.2.2.2.2 (by decide) (by decide)
    · subst ek
      obtain ⟨b, -, hb1, eb⟩ := (p_in_x (lo := 0) (hi := 9999) rfl rfl (by decide) (by decide) (fun z => q (Or.inr (Or.inr (Or.inr ⟨by decide, z⟩)))))
      exact st_rw hG hJ rfl rfl (c_change_ok1 ej hj hE e2 eb hb1) rfl rfl (m_change_ok1 ej hj hE e2 eb hb1) ⟨V, p_ok_ue hok (by omega) (by decide) ⟨fun z => by omega, fun z => by omega, fun z => by omega, fun _ => ⟨b, hb1, eb⟩⟩⟩ (pk_un (by omega)) (pk_un (by omega)) (fun i _ _ => pk_un (by omega)) ⟨rfl, rfl, rfl⟩ hJ.2.2.2.2.2.2.2 (by decide) (by decide)
set_option maxHeartbeats 1000000 in
theorem s_set (h : ge_I n G) (e k v : Int32) : st_is X n G YX11_set YX12_set [.ref (ge_ad X.1 0), .int e, .int k, .int v] [.ref (ge_ad X.1 76), .int e, .int k, .int v] := by
  obtain ⟨g, x, hb, hG, hJ⟩ := h
  obtain ⟨V, hok⟩ := hJ.1
  obtain ⟨E, hE, e2, hEv⟩ := p_ok_E hok
  have hV := hok.2.2.1
  have e3 := hok.2.1
  have hI := hok.1
  have hL := hok.2.2.2.2
  by_cases q : p_in e 0 (g 77 3 - 1) = 0 ∨ p_in k 0 1 = 0 ∨ (k = 0 ∧ p_in v 0 99 = 0) ∨ (¬ k = 0 ∧ p_in v 0 1023 = 0)
  · exact st_e0 (k := 1) (by decide) (by decide) hG hJ rfl rfl (c_set_er q) (by decide) (m_set_er q) (by decide) (by decide)
  · obtain ⟨j, hj, ej⟩ := p_in_iE (by omega) e3 (fun z => q (Or.inl z))
    obtain ⟨i, -, hi, ek⟩ := (p_in_x (lo := 0) (hi := 1) rfl rfl (by decide) (by decide) (fun z => q (Or.inr (Or.inl z))))
    rcases (by omega : i = 0 ∨ i = 1) with rfl | rfl
    · subst ek
      obtain ⟨b, -, hb1, eb⟩ := (p_in_x (lo := 0) (hi := 99) rfl rfl (by decide) (by decide) (fun z => q (Or.inr (Or.inr (Or.inl ⟨rfl, z⟩)))))
      exact st_rw hG hJ rfl rfl (c_set_ok0 ej hj hV e3 eb hb1) rfl rfl (m_set_ok0 ej hj hV e3 eb hb1) ⟨V, p_ok_uo hok (by omega) (by decide) ⟨fun z => by omega, fun _ => ⟨b, hb1, eb⟩, fun z => by omega⟩⟩ (pk_un (by omega)) (pk_un (by omega)) (fun i _ _ => pk_un (by omega)) ⟨rfl, rfl, rfl⟩ hJ.2.2.2.2.2.2.2 (by decide) (by decide)
    · subst ek
      obtain ⟨b, -, hb1, eb⟩ := (p_in_x (lo := 0) (hi := 1023) rfl rfl (by decide) (by decide) (fun z => q (Or.inr (Or.inr (Or.inr ⟨by decide, z⟩)))))
      exact st_rw hG hJ rfl rfl (c_set_ok1 ej hj hV e3 eb hb1) rfl rfl (m_set_ok1 ej hj hV e3 eb hb1) ⟨V, p_ok_uo hok (by omega) (by decide) ⟨fun z => by omega, fun z => by omega, fun _ => ⟨b, by omega, eb⟩⟩⟩ (pk_un (by omega)) (pk_un (by omega)) (fun i _ _ => pk_un (by omega)) ⟨rfl, rfl, rfl⟩ hJ.2.2.2.2.2.2.2 (by decide) (by decide)
set_option maxHeartbeats 1000000 in
theorem s_wearer (h : ge_I n G) : st_is X n G YX11_wearer YX12_wearer [.ref (ge_ad X.1 0)] [.ref (ge_ad X.1 76)] := by
  obtain ⟨g, x, hb, hG, hJ⟩ := h
  obtain ⟨V, hok⟩ := hJ.1
  obtain ⟨E, hE, e2, hEv⟩ := p_ok_E hok
  have hV := hok.2.2.1
  have e3 := hok.2.1
  have hI := hok.1
  have hL := hok.2.2.2.2
  by_cases q6 : V = 6
  · subst q6
    exact st_e0 (k := 4) (by decide) (by decide) hG hJ rfl rfl (c_wearer_er e3) (by decide) (m_wearer_er e3) (by decide) (by decide)
  · have hV6 : V < 6 := by omega
    have lo : ∀ i, (i < 50 ∨ 74 ≤ i) → i ≠ 3 → upd (p_addW (g 77) V) 3 (nI (V + 1)) i = g 77 i := fun i hi h2 => by unfold p_addW p_uo; rw [pk_un h2, pk_un (by omega), pk_un (by omega), pk_un (by omega), pk_un (by omega)]
    exact st_rw hG hJ rfl rfl (c_wearer_ok hV6 e3) rfl rfl (m_wearer_ok hV6 e3) ⟨V + 1, p_ok_addW hok hV6⟩ (lo 4 (by omega) (by omega)) (lo 5 (by omega) (by omega)) (fun i h1 _ => lo i (by omega) (by omega)) ⟨rfl, rfl, rfl⟩ hJ.2.2.2.2.2.2.2 (by decide) (by decide)
set_option maxHeartbeats 1000000 in
theorem s_ofWearer (h : ge_I n G) (w k : Int32) : st_is X n G YX11_ofWearer YX12_ofWearer [.ref (ge_ad X.1 0), .int w, .int k] [.ref (ge_ad X.1 76), .int w, .int k] := by
  obtain ⟨g, x, hb, hG, hJ⟩ := h
  obtain ⟨V, hok⟩ := hJ.1
  obtain ⟨E, hE, e2, hEv⟩ := p_ok_E hok
  have hV := hok.2.2.1
  have e3 := hok.2.1
  have hI := hok.1
  have hL := hok.2.2.2.2
  by_cases q : p_in w 0 (g 77 3 - 1) = 0 ∨ p_in k 0 4 = 0
  · exact st_e0 (k := 1) (by decide) (by decide) hG hJ rfl rfl (c_ofWearer_er q) (by decide) (m_ofWearer_er q) (by decide) (by decide)
  · obtain ⟨i, hi, ei⟩ := p_in_iE (by omega) e3 (fun z => q (Or.inl z))
    obtain ⟨j, -, hj, rfl⟩ := (p_in_x (lo := 0) (hi := 4) rfl rfl (by decide) (by decide) (fun z => q (Or.inr z)))
    rcases (by omega : j = 0 ∨ j = 1 ∨ j = 2 ∨ j = 3 ∨ j = 4) with rfl | rfl | rfl | rfl | rfl
    · exact st_r0 hG hJ rfl rfl (c_ofWearer_ok0 hI hL ei hi hV e3) rfl (m_ofWearer_ok0 ei hi hV e3) (by decide) (by decide)
    · exact st_r0 hG hJ rfl rfl (c_ofWearer_ok1 hI hL ei hi hV e3) rfl (m_ofWearer_ok1 ei hi hV e3) (by decide) (by decide)
    · exact st_r0 hG hJ rfl rfl (c_ofWearer_ok2 hI hL ei hi hV e3) rfl (m_ofWearer_ok2 ei hi hV e3) (by decide) (by decide)
    · exact st_r0 hG hJ rfl rfl (c_ofWearer_ok3 hI hL ei hi hV e3) rfl (m_ofWearer_ok3 ei hi hV e3) (by decide) (by decide)
    · exact st_r0 hG hJ rfl rfl (c_ofWearer_ok4 hI hL ei hi hV e3) rfl (m_ofWearer_ok4 hI ei hi hV e3) (by decide) (by decide)
set_option maxHeartbeats 1000000 in
theorem s_wear (h : ge_I n G) (w s e : Int32) : st_is X n G YX11_wear YX12_wear [.ref (ge_ad X.1 0), .int w, .int s, .int e] [.ref (ge_ad X.1 76), .int w, .int s, .int e] := by
  obtain ⟨g, x, hb, hG, hJ⟩ := h
  obtain ⟨V, hok⟩ := hJ.1
  obtain ⟨E, hE, e2, hEv⟩ := p_ok_E hok
  have hV := hok.2.2.1
  have e3 := hok.2.1
  have hI := hok.1
  have hL := hok.2.2.2.2
  by_cases q : p_in w 0 (g 77 3 - 1) = 0 ∨ p_in s 0 1 = 0 ∨ (¬ e = -1 ∧ p_in e 0 (g 77 2 - 1) = 0)
  · exact st_e0 (k := 1) (by decide) (by decide) hG hJ rfl rfl (c_wear_er q) (by decide) (m_wear_er q) (by decide) (by decide)
  · obtain ⟨i, hi, ei⟩ := p_in_iE (by omega) e3 (fun z => q (Or.inl z))
    obtain ⟨k, -, hk, ek⟩ := (p_in_x (lo := 0) (hi := 1) rfl rfl (by decide) (by decide) (fun z => q (Or.inr (Or.inl z))))
    have he : e = -1 ∨ ∃ j, j < E ∧ e = nI j := by
      by_cases z : e = -1
      · exact Or.inl z
      · exact Or.inr (p_in_iE (by omega) e2 (fun y => q (Or.inr (Or.inr ⟨z, y⟩))))
    have he1 : p_e1 e := he.elim Or.inl (fun ⟨j, q1, q2⟩ => Or.inr ⟨j, by omega, q2⟩)
    have hr := p_come_tf (w := i) (s := k) hV e3 hok.2.2.2.1 he1
    have ok1 : p_ok g 10000 V (p_come (g 77) i k e) := by
      rcases he with z | ⟨j, q1, q2⟩
      · subst z
        have c1 : p_come (g 77) i k (-1) = p_uo (g 77) i k (-1) := by unfold p_come; rw [if_pos (by decide)]
        rw [c1]
        exact p_ok_uo hok (by omega) (by omega) ⟨fun _ => rfl, fun z => by omega, fun z => by omega⟩
      · subst q2
        exact p_ok_come hok e2 hE hi (by omega) q1
    have lo : ∀ i1, (i1 < 50 ∨ 74 ≤ i1) → p_come (g 77) i k e i1 = g 77 i1 := by
      intro i1 h1
      have hn : p_n (g 77 3) = V := by rw [e3, p_n_nI (by omega)]
      unfold p_come
      split
      · unfold p_uo; rw [pk_un (by omega)]
      · unfold p_uo; rw [hn, pk_un (by omega), p_cms_at, if_neg (fun z => by omega)]
    rw [← hr] at ok1 lo
    exact st_rw hG hJ rfl rfl (c_wear_ok ei hi hV e3 ek hk he hE e2) rfl hr.symm (m_wear_ok ei hi hV e3 ek hk he hE e2) ⟨V, ok1⟩ (lo 4 (by omega)) (lo 5 (by omega)) (fun i h1 _ => lo i (by omega)) ⟨rfl, rfl, rfl⟩ hJ.2.2.2.2.2.2.2 (by decide) (by decide)
set_option maxHeartbeats 1000000 in
theorem s_become (h : ge_I n G) (e k : Int32) : st_is X n G YX11_become YX12_become [.ref (ge_ad X.1 0), .int e, .int k] [.ref (ge_ad X.1 76), .int e, .int k] := by
  obtain ⟨g, x, hb, hG, hJ⟩ := h
  obtain ⟨V, hok⟩ := hJ.1
  obtain ⟨E, hE, e2, hEv⟩ := p_ok_E hok
  have hV := hok.2.2.1
  have e3 := hok.2.1
  have hI := hok.1
  have hL := hok.2.2.2.2
  by_cases q : p_in e 0 (g 77 2 - 1) = 0 ∨ p_in k 0 69 = 0
  · exact st_e0 (k := 1) (by decide) (by decide) hG hJ rfl rfl (c_become_er q) (by decide) (m_become_er q) (by decide) (by decide)
  · obtain ⟨j, hj, ej⟩ := p_in_iE (by omega) e2 (fun z => q (Or.inl z))
    obtain ⟨a, -, ha, ea⟩ := (p_in_x (lo := 0) (hi := 69) rfl rfl (by decide) (by decide) (fun z => q (Or.inr z)))
    obtain ⟨k1, k2⟩ := p_div10 ha
    have h1 := p_ok_ue (e := j) (k := 0) (v := k / 10) hok (by omega) (by decide) ⟨fun _ => by rw [ea]; exact k1, fun z => by omega, fun z => by omega, fun z => by omega⟩
    have h2 := p_ok_ue (e := j) (k := 1) (v := p_rem k 10) h1 (by omega) (by decide) ⟨fun z => by omega, fun _ => by rw [ea]; exact k2, fun z => by omega, fun z => by omega⟩
    have lo : ∀ i, (i < 18 ∨ 50 ≤ i) → p_ue (p_ue (g 77) j 0 (k / 10)) j 1 (p_rem k 10) i = g 77 i := fun i hi => by unfold p_ue; rw [pk_un (by omega), pk_un (by omega)]
    exact st_rw hG hJ rfl rfl (c_become_ok ej hj hE e2 ea ha) rfl (by unfold p_ue; exact p_uc (by omega)) (m_become_ok ej hj hE e2 ea ha) ⟨V, h2⟩ (lo 4 (by omega)) (lo 5 (by omega)) (fun i h1 _ => lo i (by omega)) ⟨rfl, rfl, rfl⟩ hJ.2.2.2.2.2.2.2 (by decide) (by decide)
set_option maxHeartbeats 1000000 in
theorem s_as (h : ge_I n G) (e v : Int32) : st_is X n G YX11_as YX12_as [.ref (ge_ad X.1 0), .int e, .int v] [.ref (ge_ad X.1 76), .int e, .int v] := by
  obtain ⟨g, x, hb, hG, hJ⟩ := h
  obtain ⟨V, hok⟩ := hJ.1
  obtain ⟨E, hE, e2, hEv⟩ := p_ok_E hok
  have hV := hok.2.2.1
  have e3 := hok.2.1
  have hI := hok.1
  have hL := hok.2.2.2.2
  by_cases q : p_in e 0 (g 77 2 - 1) = 0 ∨ p_in v 0 6 = 0
  · exact st_e0 (k := 1) (by decide) (by decide) hG hJ rfl rfl (c_as_er q) (by decide) (m_as_er q) (by decide) (by decide)
  · obtain ⟨j, hj, ej⟩ := p_in_iE (by omega) e2 (fun z => q (Or.inl z))
    have hv : ¬ p_in v 0 6 = 0 := fun z => q (Or.inr z)
    obtain ⟨⟨k, hk, ek⟩, -, -, -⟩ := hI.2.2.2.2.1 j (by omega)
    rcases (by omega : k = 0 ∨ k = 1 ∨ k = 2 ∨ k = 3 ∨ k = 4 ∨ k = 5 ∨ k = 6) with rfl | rfl | rfl | rfl | rfl | rfl | rfl
    · cases hq : p_isk 0 v with
      | true => exact st_r0 hG hJ rfl rfl (c_as_0_1 ej hj hE e2 hv ek hq) rfl (m_as_0_1 ej hj hE e2 hv ek hq) (by decide) (by decide)
      | false => exact st_e0 (k := 5) (by decide) (by decide) hG hJ rfl rfl (c_as_0_0 ej hj hE e2 hv ek hq) (by decide) (m_as_0_0 ej hj hE e2 hv ek hq) (by decide) (by decide)
    · cases hq : p_isk 1 v with
      | true => exact st_r0 hG hJ rfl rfl (c_as_1_1 ej hj hE e2 hv ek hq) rfl (m_as_1_1 ej hj hE e2 hv ek hq) (by decide) (by decide)
      | false => exact st_e0 (k := 5) (by decide) (by decide) hG hJ rfl rfl (c_as_1_0 ej hj hE e2 hv ek hq) (by decide) (m_as_1_0 ej hj hE e2 hv ek hq) (by decide) (by decide)
    · cases hq : p_isk 2 v with
      | true => exact st_r0 hG hJ rfl rfl (c_as_2_1 ej hj hE e2 hv ek hq) rfl (m_as_2_1 ej hj hE e2 hv ek hq) (by decide) (by decide)
      | false => exact st_e0 (k := 5) (by decide) (by decide) hG hJ rfl rfl (c_as_2_0 ej hj hE e2 hv ek hq) (by decide) (m_as_2_0 ej hj hE e2 hv ek hq) (by decide) (by decide)
    · cases hq : p_isk 3 v with
      | true => exact st_r0 hG hJ rfl rfl (c_as_3_1 ej hj hE e2 hv ek hq) rfl (m_as_3_1 ej hj hE e2 hv ek hq) (by decide) (by decide)
      | false => exact st_e0 (k := 5) (by decide) (by decide) hG hJ rfl rfl (c_as_3_0 ej hj hE e2 hv ek hq) (by decide) (m_as_3_0 ej hj hE e2 hv ek hq) (by decide) (by decide)
    · cases hq : p_isk 4 v with
      | true => exact st_r0 hG hJ rfl rfl (c_as_4_1 ej hj hE e2 hv ek hq) rfl (m_as_4_1 ej hj hE e2 hv ek hq) (by decide) (by decide)
      | false => exact st_e0 (k := 5) (by decide) (by decide) hG hJ rfl rfl (c_as_4_0 ej hj hE e2 hv ek hq) (by decide) (m_as_4_0 ej hj hE e2 hv ek hq) (by decide) (by decide)
    · cases hq : p_isk 5 v with
      | true => exact st_r0 hG hJ rfl rfl (c_as_5_1 ej hj hE e2 hv ek hq) rfl (m_as_5_1 ej hj hE e2 hv ek hq) (by decide) (by decide)
      | false => exact st_e0 (k := 5) (by decide) (by decide) hG hJ rfl rfl (c_as_5_0 ej hj hE e2 hv ek hq) (by decide) (m_as_5_0 ej hj hE e2 hv ek hq) (by decide) (by decide)
    · cases hq : p_isk 6 v with
      | true => exact st_r0 hG hJ rfl rfl (c_as_6_1 ej hj hE e2 hv ek hq) rfl (m_as_6_1 ej hj hE e2 hv ek hq) (by decide) (by decide)
      | false => exact st_e0 (k := 5) (by decide) (by decide) hG hJ rfl rfl (c_as_6_0 ej hj hE e2 hv ek hq) (by decide) (m_as_6_0 ej hj hE e2 hv ek hq) (by decide) (by decide)
set_option maxHeartbeats 1000000 in
theorem s_law (h : ge_I n G) (w A B D : Int32) : st_is X n G YX11_law YX12_law [.ref (ge_ad X.1 0), .int w, .int A, .int B, .int D] [.ref (ge_ad X.1 76), .int w, .int A, .int B, .int D] := by
  obtain ⟨g, x, hb, hG, hJ⟩ := h
  obtain ⟨V, hok⟩ := hJ.1
  obtain ⟨E, hE, e2, hEv⟩ := p_ok_E hok
  have hV := hok.2.2.1
  have e3 := hok.2.1
  have hI := hok.1
  have hL := hok.2.2.2.2
  by_cases q : p_in w 0 1 = 0
  · exact st_e0 (k := 1) (by decide) (by decide) hG hJ rfl rfl (c_law_er q) (by decide) (m_law_er q) (by decide) (by decide)
  · obtain ⟨i, -, hi, rfl⟩ := (p_in_x (lo := 0) (hi := 1) rfl rfl (by decide) (by decide) q)
    rcases (by omega : i = 0 ∨ i = 1) with rfl | rfl
    · exact st_r0 hG hJ rfl rfl (c_law_ok0 hL) rfl (m_law_ok0 hI) (by decide) (by decide)
    · exact st_r0 hG hJ rfl rfl (c_law_ok1 hL) rfl (m_law_ok1 hI) (by decide) (by decide)
set_option maxHeartbeats 1000000 in
theorem s_seed (h : ge_I n G) (v : Int32) : st_is X n G YX11_seed YX12_seed [.ref (ge_ad X.1 0), .int v] [.ref (ge_ad X.1 76), .int v] := by
  obtain ⟨g, x, hb, hG, hJ⟩ := h
  obtain ⟨V, hok⟩ := hJ.1
  obtain ⟨E, hE, e2, hEv⟩ := p_ok_E hok
  have hV := hok.2.2.1
  have e3 := hok.2.1
  have hI := hok.1
  have hL := hok.2.2.2.2
  exact st_rw hG hJ rfl rfl (c_seed v) rfl rfl (m_seed v) ⟨V, p_ok_u1 hok⟩ (pk_un (by omega)) (pk_un (by omega)) (fun i _ _ => pk_un (by omega)) ⟨rfl, rfl, rfl⟩ hJ.2.2.2.2.2.2.2 (by decide) (by decide)
set_option maxHeartbeats 1000000 in
theorem s_told (h : ge_I n G) (k : Int32) : st_is X n G YX11_told YX12_told [.ref (ge_ad X.1 0), .int k] [.ref (ge_ad X.1 76), .int k] := by
  obtain ⟨g, x, hb, hG, hJ⟩ := h
  obtain ⟨V, hok⟩ := hJ.1
  obtain ⟨E, hE, e2, hEv⟩ := p_ok_E hok
  have hV := hok.2.2.1
  have e3 := hok.2.1
  have hI := hok.1
  have hL := hok.2.2.2.2
  by_cases q : p_in k 1 5 = 0
  · exact st_e0 (k := 1) (by decide) (by decide) hG hJ rfl rfl (c_told_er q) (by decide) (m_told_er q) (by decide) (by decide)
  · obtain ⟨a, h1, ha, ea⟩ := (p_in_x (lo := 1) (hi := 5) rfl rfl (by decide) (by decide) q)
    exact st_r0 hG hJ rfl rfl (c_told_ok ea h1 ha) (by rw [ge_k_o _ _ _ _ _ (by decide)]; exact (hJ.2.2.2.2.1 a h1 ha).symm) (m_told_ok ea h1 ha) (by decide) (by decide)
end U1
