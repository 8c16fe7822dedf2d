section T9
variable {X : ge_X} {g : ge_G} {r r' x hb r2 x2 hb2 f : Nat → Int32} {c V : Nat}
/-! what one has seen stands apart: it changes nothing else -/
theorem p_x_o {w : Nat} (h : p_x (53 + 4 * w) r r') {w' s : Nat} (hs : s < 3) : p_o r' w' s = p_o r w' s := h _ (by omega)
theorem p_x_e {w : Nat} (h : p_x (53 + 4 * w) r r') {e i : Nat} (he : e < 8) (hi : i < 4) : p_e r' e i = p_e r e i := h _ (by omega)
theorem p_x_wear {w : Nat} (h : p_x (53 + 4 * w) r r') {v : Int32} (hv : p_eo v) : p_x (53 + 4 * w) (p_wear r v) (p_wear r' v) := by
  unfold p_wear
  by_cases q : v < 0
  · rw [if_pos q, if_pos q]; exact h
  · rw [if_neg q, if_neg q, p_x_e h (p_eo_n hv q).2 (by omega)]
    exact p_x_upd h
theorem p_x_hd {w : Nat} (h : p_x (53 + 4 * w) r r') (hw : w < 6) {w' : Nat} (h0 : p_eo (p_o r w' 0)) (h1 : p_eo (p_o r w' 1)) : p_heeded r' w' = p_heeded r w' ∧ p_hf r' w' = p_hf r w' := by
  have a0 : r' 0 = r 0 := h _ (by omega)
  have a6 : r' 6 = r 6 := h _ (by omega)
  have a7 : r' 7 = r 7 := h _ (by omega)
  have ah : ∀ i, 74 ≤ i → r' i = r i := fun i hi => h _ (by omega)
  have ao : ∀ s, s < 2 → p_o r' w' s = p_o r w' s := fun s hs => p_x_o h (by omega)
  have ae : ∀ s, s < 2 → ¬ p_o r w' s < 0 → ∀ i, i < 4 → p_e r' (p_n (p_o r w' s)) i = p_e r (p_n (p_o r w' s)) i := by
    intro s hs q i hi
    refine p_x_e h ?_ hi
    have : s = 0 ∨ s = 1 := by omega
    rcases this with z | z
    · subst z; exact (p_eo_n h0 q).2
    · subst z; exact (p_eo_n h1 q).2
  exact ⟨p_heeded_c a0 a6 a7 ah ao ae, p_hf_c a0 a6 a7 ah ao ae⟩
theorem p_x_sh {w e : Nat} (h : p_x (53 + 4 * w) r r') (hw : w < 6) (he : e < 8) : p_shows r' e = p_shows r e :=
  p_shows_c (h _ (by omega)) (h _ (by omega)) (fun i hi => h _ (by omega)) (fun i hi => p_x_e h he hi)
theorem p_x_left {w w' e : Nat} (hI : p_inv c r) (h : p_x (53 + 4 * w) r r') (hw : w < 6) (he : e < 8) : p_left r' w' e = p_left r w' e := by
  obtain ⟨t, ht, et⟩ := p_shows_in hI he
  have e1 : p_less r' e = p_less r e := by
    unfold p_less p_heavy
    rw [p_x_sh h hw he, et, p_n_nI (by omega), h (8 + t) (by omega), h 0 (by omega), p_x_e h he (show 0 < 4 by omega)]
  unfold p_left
  rw [e1, p_x_o h (by omega)]
theorem p_x_look1 {w w' e : Nat} (hI : p_inv c r) (h : p_x (53 + 4 * w) r r') (hw : w < 6) (he : e < 8) : p_x (53 + 4 * w) (p_look1 r w' e) (p_look1 r' w' e) := by
  unfold p_look1
  rw [p_x_left hI h hw he, p_x_sh h hw he]
  refine p_x_upd ?_
  by_cases q : w' = w
  · subst q
    unfold p_uo
    rw [show 50 + 4 * w' + 3 = 53 + 4 * w' by omega]
    exact p_x_up1 h
  · rw [show p_o r' w' 3 = p_o r w' 3 from h _ (by omega)]
    exact p_x_upd h
theorem p_x_one {w w' : Nat} (hk : p_ok g c V r) (h : p_x (53 + 4 * w) r r') (hw : w < 6) (hw' : w' < V) : p_x (53 + 4 * w) (p_one r w') (p_one r' w') := by
  obtain ⟨hI, e3, hV, hu, -⟩ := hk
  have h0 := p_e1_eo (p_inv_e1 hI e3 hV (w := w') hw' (s := 0) (by omega))
  have h1 := p_e1_eo (p_inv_e1 hI e3 hV (w := w') hw' (s := 1) (by omega))
  unfold p_one
  rw [(p_x_hd h hw h0 h1).1]
  by_cases q : p_heeded r w' < 0
  · rw [if_pos q, if_pos q, p_x_o h (by omega)]
    exact p_x_upd h
  · rw [if_neg q, if_neg q]
    have he := (p_eo_n (p_heeded_eo h0 h1) q).2
    generalize p_n (p_heeded r w') = e at he
    have k1 := p_x_look1 (w' := w') hI h hw he
    have b0 : p_o (p_look1 r w' e) w' 0 = p_o r w' 0 := p_o_look1 w' e 0 (by omega) w'
    have b1 : p_o (p_wear1 (p_look1 r w' e) w') w' 1 = p_o r w' 1 := by unfold p_wear1; rw [p_o_wear (by rw [b0]; exact h0), p_o_look1 w' e 1 (by omega)]
    have k2 : p_x (53 + 4 * w) (p_wear1 (p_look1 r w' e) w') (p_wear1 (p_look1 r' w' e) w') := by
      unfold p_wear1
      rw [p_x_o k1 (show 0 < 3 by omega)]
      exact p_x_wear k1 (by rw [b0]; exact h0)
    have k3 : p_x (53 + 4 * w) (p_look2 r w' e) (p_look2 r' w' e) := by
      unfold p_look2 p_wear2
      rw [p_x_o k2 (show 1 < 3 by omega)]
      exact p_x_wear k2 (by rw [b1]; exact h1)
    unfold p_look
    rw [p_x_left hI h hw he]
    by_cases z : p_left r w' e = 0
    · rw [if_pos z, if_pos z]
      unfold p_take
      rw [p_x_o k3 (show 0 < 3 by omega)]
      refine p_x_upd ?_
      by_cases y : p_o (p_look2 r w' e) w' 0 = nI e
      · rw [if_pos y, if_pos y]; exact p_x_upd k3
      · rw [if_neg y, if_neg y]; exact p_x_upd k3
    · rw [if_neg z, if_neg z]; exact k3
theorem p_x_ones {w : Nat} (hk : p_ok g c V r) (h : p_x (53 + 4 * w) r r') (hw : w < 6) : ∀ k, k ≤ V → p_x (53 + 4 * w) (p_ones r k) (p_ones r' k) := by
  intro k
  induction k with
  | zero => intro _; exact h
  | succ k ih => intro z; exact p_x_one (p_ok_ones hk k (by omega)) (ih (by omega)) hw (by omega)
theorem p_x_hour {w : Nat} (hk : p_ok g c V r) (h : p_x (53 + 4 * w) r r') (hw : w < 6) : p_x (53 + 4 * w) (p_hour r) (p_hour r') := by
  have e3 := hk.2.1
  have hV := hk.2.2.1
  have e3' : r' 3 = nI V := by rw [h 3 (by omega)]; exact e3
  have k1 := p_x_ones hk h hw V (Nat.le_refl _)
  unfold p_hour
  rw [e3, e3', p_n_nI (by omega), k1 0 (by omega)]
  exact p_x_upd k1
/-- what one sees in one hour, with nothing seen ahead -/
theorem p_o3_one {w : Nat} (h0 : p_eo (p_o r w 0)) (h1 : p_eo (p_o r w 1)) : p_o (p_one r w) w 3 = if p_heeded r w < 0 then p_o r w 3 else p_o r w 3 ||| ((1 : Int32) <<< (p_hf r w &&& 31)) := by
  unfold p_one p_hf
  by_cases q : p_heeded r w < 0
  · rw [if_pos q, if_pos q, p_o_uo _ _ _ _ _ _ (by omega) (by omega), if_neg (by omega)]
  · rw [if_neg q, if_neg q, if_neg q]
    generalize p_n (p_heeded r w) = e
    have b0 : p_o (p_look1 r w e) w 0 = p_o r w 0 := p_o_look1 w e 0 (by omega) w
    have b1 : p_o (p_wear1 (p_look1 r w e) w) w 1 = p_o r w 1 := by unfold p_wear1; rw [p_o_wear (by rw [b0]; exact h0), p_o_look1 w e 1 (by omega)]
    have k2 : p_o (p_look2 r w e) w 3 = p_o r w 3 ||| ((1 : Int32) <<< (p_shows r e &&& 31)) := by
      unfold p_look2 p_wear2
      rw [b1, p_o_wear' h1]
      unfold p_wear1
      rw [b0, p_o_wear' h0]
      unfold p_look1
      rw [p_o_uo _ _ _ _ _ _ (by omega) (by omega), if_neg (by omega), p_o_uo _ _ _ _ _ _ (by omega) (by omega), if_pos ⟨rfl, rfl⟩]
    unfold p_look
    split
    · unfold p_take
      rw [p_o_uo _ _ _ _ _ _ (by omega) (by omega), if_neg (by omega)]
      split
      · rw [p_o_uo _ _ _ _ _ _ (by omega) (by omega), if_neg (by omega), k2]
      · rw [p_o_uo _ _ _ _ _ _ (by omega) (by omega), if_neg (by omega), k2]
    · exact k2
theorem p_o3_hour (hk : p_ok g c V r) {w : Nat} (hw : w < V) (z : p_o r w 3 = 0) : p_o (p_hour r) w 3 = if p_heeded r w < 0 then 0 else ((1 : Int32) <<< (p_hf r w &&& 31)) := by
  have hV := hk.2.2.1
  have key : ∀ k, w < k → k ≤ V → p_o (p_ones r k) w 3 = if p_heeded r w < 0 then 0 else ((1 : Int32) <<< (p_hf r w &&& 31)) := by
    intro k
    induction k with
    | zero => intro a; omega
    | succ k ih =>
      intro a b
      obtain ⟨hI, e3, -, hu, -⟩ := p_ok_ones hk k (by omega)
      have h0 := p_e1_eo (p_inv_e1 hI e3 hV (w := k) (by omega) (s := 0) (by omega))
      have h1 := p_e1_eo (p_inv_e1 hI e3 hV (w := k) (by omega) (s := 1) (by omega))
      show p_o (p_one (p_ones r k) k) w 3 = _
      by_cases q : w = k
      · subst q
        obtain ⟨k1, k2⟩ := p_ones_keep hk (w := w) hw w (Nat.le_refl _)
        have hI' := hk.1
        have e3' := hk.2.1
        have hd : p_heeded (p_ones r w) w = p_heeded r w := p_heeded_c (p_lo_ones 0 (by omega) w) (p_lo_ones 6 (by omega) w) (p_lo_ones 7 (by omega) w) (fun i hi => p_hi_ones hI' hV e3' hi w (by omega)) (fun s hs => k1 s (by omega)) k2
        rw [p_o3_one h0 h1, hd, p_hf_ones hk hw, k1 3 (by omega), z]
        split
        · rfl
        · simp
      · rw [p_oo_one (by omega) h0 h1 (by omega), ih (by omega) (by omega)]
  have e3' := hk.2.1
  unfold p_hour
  rw [e3', p_n_nI (by omega)]
  rw [← key V hw (Nat.le_refl _)]
  unfold p_o
  rw [pk_un (by omega)]
/-- the reference's rows in watch -/
def p_wS (r : Nat → Int32) (w : Nat) : Nat → Nat → Int32
  | 0 => r
  | n + 1 => p_hour (p_uo (p_wS r w n) w 3 0)
theorem p_wS_x {w : Nat} (hw : w < V) : ∀ i, p_ok g (c + i) V r → p_x (53 + 4 * w) (p_hrs r i) (p_wS r w i) ∧ p_ok g c V (p_wS r w i) := by
  intro i
  induction i generalizing c with
  | zero => intro h; exact ⟨fun _ _ => rfl, h⟩
  | succ i ih =>
    intro h
    obtain ⟨a, b⟩ := ih (c := c + 1) (by rw [show c + 1 + i = c + (i + 1) by omega]; exact h)
    have hk := p_ok_hrs (g := g) (c := c + 1) (V := V) i (by rw [show c + 1 + i = c + (i + 1) by omega]; exact h)
    have hV := hk.2.2.1
    have b2 : p_ok g (c + 1) V (p_uo (p_wS r w i) w 3 0) := p_ok_uo b (by omega) (by omega) ⟨fun z => by omega, fun z => by omega, fun _ => ⟨0, by omega, rfl⟩⟩
    refine ⟨p_x_hour hk (fun k hk2 => ?_) (by omega), p_ok_hour b2⟩
    unfold p_uo
    rw [pk_un (by omega)]
    exact a k hk2
theorem p_bit1 : ∀ t, t < 10 → ∀ s, s ≤ 10 → (((if s = 10 then (0 : Int32) else ((1 : Int32) <<< (nI s &&& 31))) >>> (nI t &&& 31)) &&& 1 = 1 ↔ nI s = nI t) := by decide +kernel
/-- one heeds the thing in hour i -/
def p_wp (r : Nat → Int32) (w : Nat) (t : Int32) (i : Nat) : Bool := decide (p_hf (p_hrs r i) w = t)
theorem p_wp_y {w i : Nat} {t : Int32} : p_wp r w t i = true ↔ p_hf (p_hrs r i) w = t := by unfold p_wp; simp
theorem p_wS_at {w t i : Nat} (hw : w < V) (ht : t < 10) (h : p_ok g (c + (i + 1)) V r) : (p_o (p_wS r w (i + 1)) w 3 >>> (nI t &&& 31)) &&& 1 = 1 ↔ p_wp r w (nI t) i = true := by
  obtain ⟨a, b⟩ := p_wS_x (g := g) (c := c + 1) hw i (by rw [show c + 1 + i = c + (i + 1) by omega]; exact h)
  have hk := p_ok_hrs (g := g) (c := c + 1) (V := V) i (by rw [show c + 1 + i = c + (i + 1) by omega]; exact h)
  have hV := hk.2.2.1
  have b2 : p_ok g (c + 1) V (p_uo (p_wS r w i) w 3 0) := p_ok_uo b (by omega) (by omega) ⟨fun z => by omega, fun z => by omega, fun _ => ⟨0, by omega, rfl⟩⟩
  have a2 : p_x (53 + 4 * w) (p_hrs r i) (p_uo (p_wS r w i) w 3 0) := by
    intro k hk2
    unfold p_uo
    rw [pk_un (by omega)]
    exact a k hk2
  obtain ⟨hI, e3, -, hu, -⟩ := hk
  have h0 := p_e1_eo (p_inv_e1 hI e3 hV (w := w) hw (s := 0) (by omega))
  have h1 := p_e1_eo (p_inv_e1 hI e3 hV (w := w) hw (s := 1) (by omega))
  obtain ⟨d1, d2⟩ := p_x_hd a2 (by omega) h0 h1
  have v := p_o3_hour b2 hw (by rw [p_o_uo _ _ _ _ _ _ (by omega) (by omega), if_pos ⟨rfl, rfl⟩])
  rw [d1, d2] at v
  obtain ⟨s, hs, es, e10⟩ := p_hf_in (g := g) (c := c + 1) (V := V) ⟨hI, e3, hV, hu, b.2.2.2.2.elim (fun _ _ => by exact (p_ok_hrs (g := g) (c := c + 1) (V := V) i (by rw [show c + 1 + i = c + (i + 1) by omega]; exact h)).2.2.2.2)⟩ hw
  have v2 : p_o (p_wS r w (i + 1)) w 3 = if s = 10 then (0 : Int32) else ((1 : Int32) <<< (nI s &&& 31)) := by
    show p_o (p_hour (p_uo (p_wS r w i) w 3 0)) w 3 = _
    rw [v, es]
    by_cases q : s = 10
    · rw [if_pos q, if_pos (e10.mpr q)]
    · rw [if_neg q, if_neg (fun y => q (e10.mp y))]
  rw [v2, p_bit1 t ht s hs, p_wp_y, es]
def p_wR (r : Nat → Int32) (w : Nat) (t : Int32) : Nat := p_fi (p_wp r w t) 60 0
/-- the reference's fields in watch -/
def p_wf (f r : Nat → Int32) (w : Nat) : Nat → Nat → Int32
  | 0 => f
  | n + 1 => p_tb f (p_T (p_uo (p_wS r w n) w 3 0)) (p_Bo (p_uo (p_wS r w n) w 3 0))
theorem p_wf_s (w n : Nat) : p_tb (p_wf f r w n) (p_T (p_uo (p_wS r w n) w 3 0)) (p_Bo (p_uo (p_wS r w n) w 3 0)) = p_wf f r w (n + 1) := by
  cases n with
  | zero => rfl
  | succ n => show p_tb (p_tb f _ _) _ _ = p_tb f _ _; rw [p_tb_tb]
theorem p_wf_o {w n j : Nat} (h : j ≠ 15 ∧ j ≠ 16) : p_wf f r w n j = f j := by
  cases n with
  | zero => rfl
  | succ n => exact p_tb_o h
set_option maxHeartbeats 1000000 in
theorem c_watch_ok {v t : Int32} {w t1 : Nat} (hw : v = nI w) (hwV : w < V) (ht : t = nI t1) (ht1 : t1 < 10) (h : p_ok g (c + 61) V r) (hR0 : p_wR r w t < 60) (hin : ¬ p_in v 0 (r 3 - 1) = 0) (hit : ¬ p_in t 0 9 = 0) : ge_N X ge_SH YX11_watch 6 [.ref (ge_ad X.1 0), .int v, .int t] (ge_k g 25 r x hb) (some (.int (nI (p_wR r w t + 1)))) (ge_k (ge_t1 g r V (p_wR r w t + 1)) 25 r x hb) := by
  have hV := h.2.2.1
  refine gq_ofB (l := [(0, .ref (ge_ad X.1 0)), (1, .int v), (2, .int t)]) (by decide) (Nat.le_of_ble_eq_true rfl) rfl ?_
  have key : ∀ (m i : Nat), i + m = 60 → p_fi (p_wp r w t) m i = p_wR r w t → ge_B X ge_SH YX11_watch 6 (fun v2 g2 => v2 = (some (.int (nI (p_wR r w t + 1)))) ∧ g2 = (ge_k (ge_t1 g r V (p_wR r w t + 1)) 25 r x hb)) 34 [(3, .int (nI (i + 1))), (0, .ref (ge_ad X.1 0)), (1, .int v), (2, .int t)] [] (ge_k (ge_t1 g r V (i)) 25 r x hb) := by
    intro m
    induction m with
    | zero =>
      intro i hi hR
      obtain rfl : i = 60 := hi
      have hR : 60 = p_wR r w t := hR
      refine gq_iload_n (pc := 34) dX11_watch_34 rfl ?_
      refine gq_bipush (pc := 35) dX11_watch_35 kb_60 ?_
      refine gq_ic_gt (pc := 37) 69 dX11_watch_37 (by decide) (fun h_37 => ?_) (fun h_37 => ?_)
      · exact absurd hR (by omega)
      · exact absurd (by decide) h_37
    | succ m ih =>
      intro i hi hR
      have hh : p_ok g (c + 1) V (p_hrs r i) := p_ok_weak (p_ok_hrs (c := c + (61 - i)) i (by rw [show c + (61 - i) + i = c + 61 by omega]; exact h)) (by omega)
      refine gq_iload_n (pc := 34) dX11_watch_34 rfl ?_
      refine gq_bipush (pc := 35) dX11_watch_35 kb_60 ?_
      refine gq_ic_gt (pc := 37) 69 dX11_watch_37 (by decide) (fun h_37 => ?_) (fun h_37 => ?_)
      · exact absurd h_37 (nI_nlt (a := 60) (by omega) (by decide))
      · refine gq_aload_n (pc := 40) dX11_watch_40 rfl ?_
        refine gq_getr (pc := 41) dX11_watch_41 fl_X11_64_11 sh_0 rfl ?_
        refine gq_iconst (pc := 44) dX11_watch_44 kc_1 ?_
        refine gq_rV1v (pc := 45) dX11_watch_45 cv_X11_214 sh_35 (c_th1 (c := c) (p_ok_weak h (by omega))) ⟨by decide, by decide⟩ rfl rfl (Nat.le_of_ble_eq_true rfl) ?_
        refine gq_aload_n (pc := 48) dX11_watch_48 rfl ?_
        refine gq_getr (pc := 49) dX11_watch_49 fl_X11_64_11 sh_0 rfl ?_
        refine gq_getr (pc := 52) dX11_watch_52 fl_X11_229_10 sh_35 rfl ?_
        refine gq_iload_n (pc := 55) dX11_watch_55 rfl ?_
        refine kt_ald9 (pc := 56) dX11_watch_56 hw (by first | decide | omega) ?_
        refine gq_iload_n (pc := 57) dX11_watch_57 rfl ?_
        rw [p_hh_at hh hwV]
        refine gq_ic_ne (pc := 58) 63 dX11_watch_58 (by decide) (fun h_58 => ?_) (fun h_58 => ?_)
        · rw [p_fi_n (fun z => h_58 (p_wp_y.mp z))] at hR
          refine gq_iinc (pc := 63) (l' := [(3, _), (0, _), (1, _), (2, _)]) dX11_watch_63 rfl (ge_inc1 (i + 1)) (by decide) rfl ?_
          refine gq_goto (pc := 66) 34 dX11_watch_66 (by decide) ?_
          refine gq_sub [0, 1, 2, 3] rfl ?_
          exact ih (i + 1) (by omega) hR
        · rw [p_fi_y (p_wp_y.mpr (by first | exact h_58 | exact Decidable.not_not.mp h_58))] at hR
          refine gq_iload_n (pc := 61) dX11_watch_61 rfl ?_
          exact gq_iret (pc := 62) rfl dX11_watch_62 ⟨by rw [← hR], by rw [← hR]; rfl⟩
  refine gq_aload_n (pc := 0) dX11_watch_0 rfl ?_
  refine gq_iload_n (pc := 1) dX11_watch_1 rfl ?_
  refine gq_rV1i (pc := 2) dX11_watch_2 cv_X11_157 sh_0 (c_noWearer _) ⟨by decide, by decide⟩ rfl rfl (Nat.le_of_ble_eq_true rfl) ?_
  refine gq_if_ne (pc := 5) 15 dX11_watch_5 (by decide) (fun h_5 => ?_) (fun h_5 => ?_)
  · exact absurd (p_nt_0.mpr hin) h_5
  · refine gq_iload_n (pc := 8) dX11_watch_8 rfl ?_
    refine gq_rS1i (pc := 9) dX11_watch_9 cs_X11_101 (c_noThing _) ⟨by decide, by decide⟩ (Nat.le_of_ble_eq_true rfl) ?_
    refine gq_if_eq (pc := 12) 21 dX11_watch_12 (by decide) (fun h_12 => ?_) (fun h_12 => ?_)
    · refine gq_aload_n (pc := 21) dX11_watch_21 rfl ?_
      refine gq_getr (pc := 22) dX11_watch_22 fl_X11_64_11 sh_0 rfl ?_
      refine gq_aload_n (pc := 25) dX11_watch_25 rfl ?_
      refine gq_getr (pc := 26) dX11_watch_26 fl_X11_60_11 sh_0 rfl ?_
      refine gq_rV1v (pc := 29) dX11_watch_29 cv_X11_223 sh_35 (c_cp1 (V := V)) ⟨by decide, by decide⟩ rfl rfl (Nat.le_of_ble_eq_true rfl) ?_
      refine gq_iconst (pc := 32) dX11_watch_32 kc_1 ?_
      refine gq_istore_n (pc := 33) (l' := [(3, _), (0, _), (1, _), (2, _)]) dX11_watch_33 (by decide) rfl ?_
      refine gq_sub [0, 1, 2, 3] rfl ?_
      exact key 60 0 (by omega) rfl
    · exact absurd (p_nt_0.mpr hit) h_12
set_option maxHeartbeats 1000000 in
theorem c_watch_no {v t : Int32} {w t1 : Nat} (hw : v = nI w) (hwV : w < V) (ht : t = nI t1) (ht1 : t1 < 10) (h : p_ok g (c + 61) V r) (hR0 : p_wR r w t = 60) (hin : ¬ p_in v 0 (r 3 - 1) = 0) (hit : ¬ p_in t 0 9 = 0) : ge_N X ge_SH YX11_watch 6 [.ref (ge_ad X.1 0), .int v, .int t] (ge_k g 25 r x hb) (some (.int (-1000000000 - 2))) (ge_k (ge_up (ge_t1 g r V 60) 75 2 (g 75 2 + 1)) 25 r x hb) := by
  have hV := h.2.2.1
  refine gq_ofB (l := [(0, .ref (ge_ad X.1 0)), (1, .int v), (2, .int t)]) (by decide) (Nat.le_of_ble_eq_true rfl) rfl ?_
  have key : ∀ (m i : Nat), i + m = 60 → p_fi (p_wp r w t) m i = p_wR r w t → ge_B X ge_SH YX11_watch 6 (fun v2 g2 => v2 = (some (.int (-1000000000 - 2))) ∧ g2 = (ge_k (ge_up (ge_t1 g r V 60) 75 2 (g 75 2 + 1)) 25 r x hb)) 34 [(3, .int (nI (i + 1))), (0, .ref (ge_ad X.1 0)), (1, .int v), (2, .int t)] [] (ge_k (ge_t1 g r V (i)) 25 r x hb) := by
    intro m
    induction m with
    | zero =>
      intro i hi hR
      obtain rfl : i = 60 := hi
      have hR : 60 = p_wR r w t := hR
      refine gq_iload_n (pc := 34) dX11_watch_34 rfl ?_
      refine gq_bipush (pc := 35) dX11_watch_35 kb_60 ?_
      refine gq_ic_gt (pc := 37) 69 dX11_watch_37 (by decide) (fun h_37 => ?_) (fun h_37 => ?_)
      · refine gq_aload_n (pc := 69) dX11_watch_69 rfl ?_
        refine gq_iconst (pc := 70) dX11_watch_70 kc_2 ?_
        refine gq_rV1i (pc := 71) dX11_watch_71 cv_X11_109 sh_0 (c_error kl_2 (by decide)) ⟨by decide, by decide⟩ rfl rfl (Nat.le_of_ble_eq_true rfl) ?_
        exact gq_iret (pc := 74) rfl dX11_watch_74 ⟨rfl, rfl⟩
      · exact absurd (by decide) h_37
    | succ m ih =>
      intro i hi hR
      have hh : p_ok g (c + 1) V (p_hrs r i) := p_ok_weak (p_ok_hrs (c := c + (61 - i)) i (by rw [show c + (61 - i) + i = c + 61 by omega]; exact h)) (by omega)
      refine gq_iload_n (pc := 34) dX11_watch_34 rfl ?_
      refine gq_bipush (pc := 35) dX11_watch_35 kb_60 ?_
      refine gq_ic_gt (pc := 37) 69 dX11_watch_37 (by decide) (fun h_37 => ?_) (fun h_37 => ?_)
      · exact absurd h_37 (nI_nlt (a := 60) (by omega) (by decide))
      · refine gq_aload_n (pc := 40) dX11_watch_40 rfl ?_
        refine gq_getr (pc := 41) dX11_watch_41 fl_X11_64_11 sh_0 rfl ?_
        refine gq_iconst (pc := 44) dX11_watch_44 kc_1 ?_
        refine gq_rV1v (pc := 45) dX11_watch_45 cv_X11_214 sh_35 (c_th1 (c := c) (p_ok_weak h (by omega))) ⟨by decide, by decide⟩ rfl rfl (Nat.le_of_ble_eq_true rfl) ?_
        refine gq_aload_n (pc := 48) dX11_watch_48 rfl ?_
        refine gq_getr (pc := 49) dX11_watch_49 fl_X11_64_11 sh_0 rfl ?_
        refine gq_getr (pc := 52) dX11_watch_52 fl_X11_229_10 sh_35 rfl ?_
        refine gq_iload_n (pc := 55) dX11_watch_55 rfl ?_
        refine kt_ald9 (pc := 56) dX11_watch_56 hw (by first | decide | omega) ?_
        refine gq_iload_n (pc := 57) dX11_watch_57 rfl ?_
        rw [p_hh_at hh hwV]
        refine gq_ic_ne (pc := 58) 63 dX11_watch_58 (by decide) (fun h_58 => ?_) (fun h_58 => ?_)
        · rw [p_fi_n (fun z => h_58 (p_wp_y.mp z))] at hR
          refine gq_iinc (pc := 63) (l' := [(3, _), (0, _), (1, _), (2, _)]) dX11_watch_63 rfl (ge_inc1 (i + 1)) (by decide) rfl ?_
          refine gq_goto (pc := 66) 34 dX11_watch_66 (by decide) ?_
          refine gq_sub [0, 1, 2, 3] rfl ?_
          exact ih (i + 1) (by omega) hR
        · rw [p_fi_y (p_wp_y.mpr (by first | exact h_58 | exact Decidable.not_not.mp h_58))] at hR
          exact absurd hR (by omega)
  refine gq_aload_n (pc := 0) dX11_watch_0 rfl ?_
  refine gq_iload_n (pc := 1) dX11_watch_1 rfl ?_
  refine gq_rV1i (pc := 2) dX11_watch_2 cv_X11_157 sh_0 (c_noWearer _) ⟨by decide, by decide⟩ rfl rfl (Nat.le_of_ble_eq_true rfl) ?_
  refine gq_if_ne (pc := 5) 15 dX11_watch_5 (by decide) (fun h_5 => ?_) (fun h_5 => ?_)
  · exact absurd (p_nt_0.mpr hin) h_5
  · refine gq_iload_n (pc := 8) dX11_watch_8 rfl ?_
    refine gq_rS1i (pc := 9) dX11_watch_9 cs_X11_101 (c_noThing _) ⟨by decide, by decide⟩ (Nat.le_of_ble_eq_true rfl) ?_
    refine gq_if_eq (pc := 12) 21 dX11_watch_12 (by decide) (fun h_12 => ?_) (fun h_12 => ?_)
    · refine gq_aload_n (pc := 21) dX11_watch_21 rfl ?_
      refine gq_getr (pc := 22) dX11_watch_22 fl_X11_64_11 sh_0 rfl ?_
      refine gq_aload_n (pc := 25) dX11_watch_25 rfl ?_
      refine gq_getr (pc := 26) dX11_watch_26 fl_X11_60_11 sh_0 rfl ?_
      refine gq_rV1v (pc := 29) dX11_watch_29 cv_X11_223 sh_35 (c_cp1 (V := V)) ⟨by decide, by decide⟩ rfl rfl (Nat.le_of_ble_eq_true rfl) ?_
      refine gq_iconst (pc := 32) dX11_watch_32 kc_1 ?_
      refine gq_istore_n (pc := 33) (l' := [(3, _), (0, _), (1, _), (2, _)]) dX11_watch_33 (by decide) rfl ?_
      refine gq_sub [0, 1, 2, 3] rfl ?_
      exact key 60 0 (by omega) rfl
    · exact absurd (p_nt_0.mpr hit) h_12
set_option maxHeartbeats 400000 in
theorem c_watch_er1 {v t : Int32} (h : p_in v 0 (r 3 - 1) = 0) : ge_N X ge_SH YX11_watch 6 [.ref (ge_ad X.1 0), .int v, .int t] (ge_k g 25 r x hb) (some (.int (-1000000000 - 1))) (ge_k (ge_up g 75 1 (g 75 1 + 1)) 25 r x hb) := by
  refine gq_ofB (l := [(0, .ref (ge_ad X.1 0)), (1, .int v), (2, .int t)]) (by decide) (Nat.le_of_ble_eq_true rfl) rfl ?_
  refine gq_aload_n (pc := 0) dX11_watch_0 rfl ?_
  refine gq_iload_n (pc := 1) dX11_watch_1 rfl ?_
  refine gq_rV1i (pc := 2) dX11_watch_2 cv_X11_157 sh_0 (c_noWearer _) ⟨by decide, by decide⟩ rfl rfl (Nat.le_of_ble_eq_true rfl) ?_
  refine gq_if_ne (pc := 5) 15 dX11_watch_5 (by decide) (fun h_5 => ?_) (fun h_5 => ?_)
  · refine gq_aload_n (pc := 15) dX11_watch_15 rfl ?_
    refine gq_iconst (pc := 16) dX11_watch_16 kc_1 ?_
    refine gq_rV1i (pc := 17) dX11_watch_17 cv_X11_109 sh_0 (c_error kl_1 (by decide)) ⟨by decide, by decide⟩ rfl rfl (Nat.le_of_ble_eq_true rfl) ?_
    exact gq_iret (pc := 20) rfl dX11_watch_20 ⟨rfl, rfl⟩
  · exact absurd h (p_nt_0.mp h_5)
set_option maxHeartbeats 400000 in
theorem c_watch_er2 {v t : Int32} (h : ¬ p_in v 0 (r 3 - 1) = 0) (h2 : p_in t 0 9 = 0) : ge_N X ge_SH YX11_watch 6 [.ref (ge_ad X.1 0), .int v, .int t] (ge_k g 25 r x hb) (some (.int (-1000000000 - 1))) (ge_k (ge_up g 75 1 (g 75 1 + 1)) 25 r x hb) := by
  refine gq_ofB (l := [(0, .ref (ge_ad X.1 0)), (1, .int v), (2, .int t)]) (by decide) (Nat.le_of_ble_eq_true rfl) rfl ?_
  refine gq_aload_n (pc := 0) dX11_watch_0 rfl ?_
  refine gq_iload_n (pc := 1) dX11_watch_1 rfl ?_
  refine gq_rV1i (pc := 2) dX11_watch_2 cv_X11_157 sh_0 (c_noWearer _) ⟨by decide, by decide⟩ rfl rfl (Nat.le_of_ble_eq_true rfl) ?_
  refine gq_if_ne (pc := 5) 15 dX11_watch_5 (by decide) (fun h_5 => ?_) (fun h_5 => ?_)
  · exact absurd (p_nt_0.mpr h) h_5
  · refine gq_iload_n (pc := 8) dX11_watch_8 rfl ?_
    refine gq_rS1i (pc := 9) dX11_watch_9 cs_X11_101 (c_noThing _) ⟨by decide, by decide⟩ (Nat.le_of_ble_eq_true rfl) ?_
    refine gq_if_eq (pc := 12) 21 dX11_watch_12 (by decide) (fun h_12 => ?_) (fun h_12 => ?_)
    · exact absurd h2 (p_nt_0.mp h_12)
    · refine gq_aload_n (pc := 15) dX11_watch_15 rfl ?_
      refine gq_iconst (pc := 16) dX11_watch_16 kc_1 ?_
      refine gq_rV1i (pc := 17) dX11_watch_17 cv_X11_109 sh_0 (c_error kl_1 (by decide)) ⟨by decide, by decide⟩ rfl rfl (Nat.le_of_ble_eq_true rfl) ?_
      exact gq_iret (pc := 20) rfl dX11_watch_20 ⟨rfl, rfl⟩
set_option maxHeartbeats 400000 in
theorem m_watch_er1 {v t : Int32} (h : p_in v 0 (r 3 - 1) = 0) : ge_N X ge_SH YX12_watch 45 [.ref (ge_ad X.1 76), .int v, .int t] (ge_m g r f) (some (.int (-1000000001))) (ge_m (ge_up g 81 1 (g 81 1 + 1)) r f) := by
  refine gq_ofB (l := [(0, .ref (ge_ad X.1 76)), (1, .int v), (2, .int t)]) (by decide) (Nat.le_of_ble_eq_true rfl) rfl ?_
  refine gq_aload_n (pc := 0) dX12_watch_0 rfl ?_
  refine gq_iload_n (pc := 1) dX12_watch_1 rfl ?_
  refine gq_rV1i (pc := 2) dX12_watch_2 cv_X12_84 sh_76 (k_isWearer _) ⟨by decide, by decide⟩ rfl rfl (Nat.le_of_ble_eq_true rfl) ?_
  refine gq_if_eq (pc := 5) 15 dX12_watch_5 (by decide) (fun h_5 => ?_) (fun h_5 => ?_)
  · refine gq_aload_n (pc := 15) dX12_watch_15 rfl ?_
    refine gq_ldc (pc := 16) dX12_watch_16 kn_X12_53 ?_
    refine gq_rV1i (pc := 18) dX12_watch_18 cv_X12_54 sh_76 (k_errs (j := 1) (by decide) (by decide)) ⟨by decide, by decide⟩ rfl rfl (Nat.le_of_ble_eq_true rfl) ?_
    exact gq_iret (pc := 21) rfl dX12_watch_21 ⟨rfl, rfl⟩
  · exact absurd h h_5
set_option maxHeartbeats 400000 in
theorem m_watch_er2 {v t : Int32} (h : ¬ p_in v 0 (r 3 - 1) = 0) (h2 : p_in t 0 9 = 0) : ge_N X ge_SH YX12_watch 45 [.ref (ge_ad X.1 76), .int v, .int t] (ge_m g r f) (some (.int (-1000000001))) (ge_m (ge_up g 81 1 (g 81 1 + 1)) r f) := by
  refine gq_ofB (l := [(0, .ref (ge_ad X.1 76)), (1, .int v), (2, .int t)]) (by decide) (Nat.le_of_ble_eq_true rfl) rfl ?_
  refine gq_aload_n (pc := 0) dX12_watch_0 rfl ?_
  refine gq_iload_n (pc := 1) dX12_watch_1 rfl ?_
  refine gq_rV1i (pc := 2) dX12_watch_2 cv_X12_84 sh_76 (k_isWearer _) ⟨by decide, by decide⟩ rfl rfl (Nat.le_of_ble_eq_true rfl) ?_
  refine gq_if_eq (pc := 5) 15 dX12_watch_5 (by decide) (fun h_5 => ?_) (fun h_5 => ?_)
  · exact absurd h_5 h
  · refine gq_iload_n (pc := 8) dX12_watch_8 rfl ?_
    refine gq_rS1i (pc := 9) dX12_watch_9 cs_X12_45 (k_isThing _) ⟨by decide, by decide⟩ (Nat.le_of_ble_eq_true rfl) ?_
    refine gq_if_ne (pc := 12) 22 dX12_watch_12 (by decide) (fun h_12 => ?_) (fun h_12 => ?_)
    · exact absurd h2 h_12
    · refine gq_aload_n (pc := 15) dX12_watch_15 rfl ?_
      refine gq_ldc (pc := 16) dX12_watch_16 kn_X12_53 ?_
      refine gq_rV1i (pc := 18) dX12_watch_18 cv_X12_54 sh_76 (k_errs (j := 1) (by decide) (by decide)) ⟨by decide, by decide⟩ rfl rfl (Nat.le_of_ble_eq_true rfl) ?_
      exact gq_iret (pc := 21) rfl dX12_watch_21 ⟨rfl, rfl⟩
set_option maxHeartbeats 1000000 in
theorem m_watch_ok {v t : Int32} {w t1 : Nat} (hw : v = nI w) (hwV : w < V) (ht : t = nI t1) (ht1 : t1 < 10) (h : p_ok g (c + 61) V r) (hR0 : p_wR r w t < 60) (hin : ¬ p_in v 0 (r 3 - 1) = 0) (hit : ¬ p_in t 0 9 = 0) : ge_N X ge_SH YX12_watch 44 [.ref (ge_ad X.1 76), .int v, .int t] (ge_m g r f) (some (.int (nI (p_wR r w t + 1)))) (ge_m (ge_row g 79 r) r (p_wf f r w (p_wR r w t + 1))) := by
  have hV := h.2.2.1
  refine gq_ofB (l := [(0, .ref (ge_ad X.1 76)), (1, .int v), (2, .int t)]) (by decide) (Nat.le_of_ble_eq_true rfl) rfl ?_
  have fin : ∀ i, i < 60 → i = p_wR r w t → ge_B X ge_SH YX12_watch 44 (fun v2 g2 => v2 = (some (.int (nI (p_wR r w t + 1)))) ∧ g2 = (ge_m (ge_row g 79 r) r (p_wf f r w (p_wR r w t + 1)))) 39 [(4, .int 1), (3, .int (nI (i + 1))), (0, .ref (ge_ad X.1 76)), (1, .int v), (2, .int t)] [] (ge_m (ge_row g 79 r) (p_wS r w (i + 1)) (p_wf f r w (i + 1))) := by
    intro i hi hR
    refine gq_iload_n (pc := 39) dX12_watch_39 rfl ?_
    refine gq_bipush (pc := 40) dX12_watch_40 kb_60 ?_
    refine gq_ic_gt (pc := 42) 88 dX12_watch_42 (by decide) (fun h_42 => ?_) (fun h_42 => ?_)
    · exact absurd h_42 (nI_nlt (a := 60) (by omega) (by decide))
    · refine gq_iload (pc := 45) dX12_watch_45 rfl ?_
      refine gq_if_ne (pc := 47) 88 dX12_watch_47 (by decide) (fun h_47 => ?_) (fun h_47 => ?_)
      · refine gq_aload_n (pc := 88) dX12_watch_88 rfl ?_
        refine gq_aload_n (pc := 89) dX12_watch_89 rfl ?_
        refine gq_getr (pc := 90) dX12_watch_90 fl_X12_16_12 sh_76 rfl ?_
        refine gq_aload_n (pc := 93) dX12_watch_93 rfl ?_
        refine gq_getr (pc := 94) dX12_watch_94 fl_X12_7_12 sh_76 rfl ?_
        refine gq_rV2v (pc := 97) dX12_watch_97 cv_X12_170 sh_76 (k_move_back sh_79 (by decide) (by decide) (by decide)) ⟨by decide, by decide⟩ rfl rfl (Nat.le_of_ble_eq_true rfl) ?_
        refine gq_tog (g := ge_m (ge_row g 79 r) r (p_wf f r w (i + 1))) (by rw [ge_row_self]) ?_
        refine gq_iload_n (pc := 100) dX12_watch_100 rfl ?_
        refine gq_bipush (pc := 101) dX12_watch_101 kb_60 ?_
        refine gq_ic_le (pc := 103) 115 dX12_watch_103 (by decide) (fun h_103 => ?_) (fun h_103 => ?_)
        · refine gq_iload_n (pc := 115) dX12_watch_115 rfl ?_
          exact gq_iret (pc := 116) rfl dX12_watch_116 ⟨by rw [← hR], by rw [← hR]⟩
        · exact absurd ((nI_leI (b := 60) (by omega) (by decide)).mpr (by omega)) h_103
      · exact absurd h_47 (by decide)
  have key : ∀ (m i : Nat), i + m = 60 → p_fi (p_wp r w t) m i = p_wR r w t → ge_B X ge_SH YX12_watch 44 (fun v2 g2 => v2 = (some (.int (nI (p_wR r w t + 1)))) ∧ g2 = (ge_m (ge_row g 79 r) r (p_wf f r w (p_wR r w t + 1)))) 39 [(4, .int 0), (3, .int (nI (i))), (0, .ref (ge_ad X.1 76)), (1, .int v), (2, .int t)] [] (ge_m (ge_row g 79 r) (p_wS r w (i)) (p_wf f r w (i))) := by
    intro m
    induction m with
    | zero =>
      intro i hi hR
      obtain rfl : i = 60 := hi
      have hR : 60 = p_wR r w t := hR
      exact absurd hR (by omega)
    | succ m ih =>
      intro i hi hR
      obtain ⟨-, hb⟩ := p_wS_x (g := g) (c := c + (61 - i)) hwV i (by rw [show c + (61 - i) + i = c + 61 by omega]; exact h)
      have hh := (p_ok_weak (c' := c + 1) (p_ok_uo (w := w) (k := 3) (v := 0) hb (by omega) (by omega) ⟨fun z => by omega, fun z => by omega, fun _ => ⟨0, by omega, rfl⟩⟩) (by omega)).1
      have hat := p_wS_at (g := g) (c := c) (t := t1) hwV ht1 (i := i) (p_ok_weak h (by omega))
      rw [← ht] at hat
      refine gq_iload_n (pc := 39) dX12_watch_39 rfl ?_
      refine gq_bipush (pc := 40) dX12_watch_40 kb_60 ?_
      refine gq_ic_gt (pc := 42) 88 dX12_watch_42 (by decide) (fun h_42 => ?_) (fun h_42 => ?_)
      · exact absurd h_42 (nI_nlt (a := 60) (by omega) (by decide))
      · refine gq_iload (pc := 45) dX12_watch_45 rfl ?_
        refine gq_if_ne (pc := 47) 88 dX12_watch_47 (by decide) (fun h_47 => ?_) (fun h_47 => ?_)
        · exact absurd h_47 (by decide)
        · refine gq_aload_n (pc := 50) dX12_watch_50 rfl ?_
          refine gq_iload_n (pc := 51) dX12_watch_51 rfl ?_
          refine gq_iconst (pc := 52) dX12_watch_52 kc_3 ?_
          refine gq_iconst (pc := 53) dX12_watch_53 kc_0 ?_
          refine gq_rV3v (pc := 54) dX12_watch_54 cv_X12_81 sh_76 (k_puts hw kl_3 (by omega)) ⟨by decide, by decide⟩ rfl rfl (Nat.le_of_ble_eq_true rfl) ?_
          refine gq_aload_n (pc := 57) dX12_watch_57 rfl ?_
          refine gq_rV0v (pc := 58) dX12_watch_58 cv_X12_188 sh_76 (k_oneHour hh) ⟨by decide, by decide⟩ rfl rfl (Nat.le_of_ble_eq_true rfl) ?_
          refine gq_tog (g := (ge_m (ge_row g 79 r) (p_wS r w (i + 1)) (p_wf f r w (i + 1)))) (by rw [p_wf_s]; rfl) ?_
          refine gq_iinc (pc := 61) (l' := [(3, _), (4, _), (0, _), (1, _), (2, _)]) dX12_watch_61 rfl (ge_inc1 (i)) (by decide) rfl ?_
          refine gq_aload_n (pc := 64) dX12_watch_64 rfl ?_
          refine gq_iload_n (pc := 65) dX12_watch_65 rfl ?_
          refine gq_iconst (pc := 66) dX12_watch_66 kc_3 ?_
          refine gq_rV2i (pc := 67) dX12_watch_67 cv_X12_63 sh_76 (k_ones hw kl_3 (by omega)) ⟨by decide, by decide⟩ rfl rfl (Nat.le_of_ble_eq_true rfl) ?_
          refine gq_iload_n (pc := 70) dX12_watch_70 rfl ?_
          refine gq_ishr (pc := 71) dX12_watch_71 ?_
          refine gq_iconst (pc := 72) dX12_watch_72 kc_1 ?_
          refine gq_iand (pc := 73) dX12_watch_73 ?_
          refine gq_iconst (pc := 74) dX12_watch_74 kc_1 ?_
          refine gq_ic_ne (pc := 75) 82 dX12_watch_75 (by decide) (fun h_75 => ?_) (fun h_75 => ?_)
          · refine gq_iconst (pc := 82) dX12_watch_82 kc_0 ?_
            refine gq_istore (pc := 83) (l' := [(4, _), (3, _), (0, _), (1, _), (2, _)]) dX12_watch_83 (by decide) rfl ?_
            refine gq_goto (pc := 85) 39 dX12_watch_85 (by decide) ?_
            refine gq_sub [0, 1, 2, 3, 4] rfl ?_
            rw [p_fi_n (fun z => h_75 (hat.mpr z))] at hR
            exact ih (i + 1) (by omega) hR
          · refine gq_iconst (pc := 78) dX12_watch_78 kc_1 ?_
            refine gq_goto (pc := 79) 83 dX12_watch_79 (by decide) ?_
            refine gq_istore (pc := 83) (l' := [(4, _), (3, _), (0, _), (1, _), (2, _)]) dX12_watch_83 (by decide) rfl ?_
            refine gq_goto (pc := 85) 39 dX12_watch_85 (by decide) ?_
            rw [p_fi_y (hat.mp (by first | exact h_75 | exact Decidable.not_not.mp h_75))] at hR
            refine gq_sub [0, 1, 2, 3, 4] rfl ?_
            exact fin i (by omega) hR
  refine gq_aload_n (pc := 0) dX12_watch_0 rfl ?_
  refine gq_iload_n (pc := 1) dX12_watch_1 rfl ?_
  refine gq_rV1i (pc := 2) dX12_watch_2 cv_X12_84 sh_76 (k_isWearer _) ⟨by decide, by decide⟩ rfl rfl (Nat.le_of_ble_eq_true rfl) ?_
  refine gq_if_eq (pc := 5) 15 dX12_watch_5 (by decide) (fun h_5 => ?_) (fun h_5 => ?_)
  · exact absurd h_5 hin
  · refine gq_iload_n (pc := 8) dX12_watch_8 rfl ?_
    refine gq_rS1i (pc := 9) dX12_watch_9 cs_X12_45 (k_isThing _) ⟨by decide, by decide⟩ (Nat.le_of_ble_eq_true rfl) ?_
    refine gq_if_ne (pc := 12) 22 dX12_watch_12 (by decide) (fun h_12 => ?_) (fun h_12 => ?_)
    · refine gq_aload_n (pc := 22) dX12_watch_22 rfl ?_
      refine gq_aload_n (pc := 23) dX12_watch_23 rfl ?_
      refine gq_getr (pc := 24) dX12_watch_24 fl_X12_7_12 sh_76 rfl ?_
      refine gq_aload_n (pc := 27) dX12_watch_27 rfl ?_
      refine gq_getr (pc := 28) dX12_watch_28 fl_X12_16_12 sh_76 rfl ?_
      refine gq_rV2v (pc := 31) dX12_watch_31 cv_X12_170 sh_76 (k_move_to sh_79 (by decide) (by decide)) ⟨by decide, by decide⟩ rfl rfl (Nat.le_of_ble_eq_true rfl) ?_
      refine gq_iconst (pc := 34) dX12_watch_34 kc_0 ?_
      refine gq_istore_n (pc := 35) (l' := [(3, _), (0, _), (1, _), (2, _)]) dX12_watch_35 (by decide) rfl ?_
      refine gq_iconst (pc := 36) dX12_watch_36 kc_0 ?_
      refine gq_istore (pc := 37) (l' := [(4, _), (3, _), (0, _), (1, _), (2, _)]) dX12_watch_37 (by decide) rfl ?_
      refine gq_sub [0, 1, 2, 3, 4] rfl ?_
      exact key 60 0 (by omega) rfl
    · exact absurd h_12 hit
set_option maxHeartbeats 1000000 in
theorem m_watch_no {v t : Int32} {w t1 : Nat} (hw : v = nI w) (hwV : w < V) (ht : t = nI t1) (ht1 : t1 < 10) (h : p_ok g (c + 61) V r) (hR0 : p_wR r w t = 60) (hin : ¬ p_in v 0 (r 3 - 1) = 0) (hit : ¬ p_in t 0 9 = 0) : ge_N X ge_SH YX12_watch 44 [.ref (ge_ad X.1 76), .int v, .int t] (ge_m g r f) (some (.int (-1000000002))) (ge_m (ge_up (ge_row g 79 r) 81 2 (g 81 2 + 1)) r (p_wf f r w 61)) := by
  have hV := h.2.2.1
  refine gq_ofB (l := [(0, .ref (ge_ad X.1 76)), (1, .int v), (2, .int t)]) (by decide) (Nat.le_of_ble_eq_true rfl) rfl ?_
  have fin0 : ge_B X ge_SH YX12_watch 44 (fun v2 g2 => v2 = (some (.int (-1000000002))) ∧ g2 = (ge_m (ge_up (ge_row g 79 r) 81 2 (g 81 2 + 1)) r (p_wf f r w 61))) 39 [(4, .int 0), (3, .int (nI (61))), (0, .ref (ge_ad X.1 76)), (1, .int v), (2, .int t)] [] (ge_m (ge_row g 79 r) (p_wS r w (61)) (p_wf f r w (61))) := by
    refine gq_iload_n (pc := 39) dX12_watch_39 rfl ?_
    refine gq_bipush (pc := 40) dX12_watch_40 kb_60 ?_
    refine gq_ic_gt (pc := 42) 88 dX12_watch_42 (by decide) (fun h_42 => ?_) (fun h_42 => ?_)
    · refine gq_aload_n (pc := 88) dX12_watch_88 rfl ?_
      refine gq_aload_n (pc := 89) dX12_watch_89 rfl ?_
      refine gq_getr (pc := 90) dX12_watch_90 fl_X12_16_12 sh_76 rfl ?_
      refine gq_aload_n (pc := 93) dX12_watch_93 rfl ?_
      refine gq_getr (pc := 94) dX12_watch_94 fl_X12_7_12 sh_76 rfl ?_
      refine gq_rV2v (pc := 97) dX12_watch_97 cv_X12_170 sh_76 (k_move_back sh_79 (by decide) (by decide) (by decide)) ⟨by decide, by decide⟩ rfl rfl (Nat.le_of_ble_eq_true rfl) ?_
      refine gq_tog (g := ge_m (ge_row g 79 r) r (p_wf f r w 61)) (by rw [ge_row_self]) ?_
      refine gq_iload_n (pc := 100) dX12_watch_100 rfl ?_
      refine gq_bipush (pc := 101) dX12_watch_101 kb_60 ?_
      refine gq_ic_le (pc := 103) 115 dX12_watch_103 (by decide) (fun h_103 => ?_) (fun h_103 => ?_)
      · exact absurd h_103 (by decide)
      · refine gq_aload_n (pc := 106) dX12_watch_106 rfl ?_
        refine gq_ldc (pc := 107) dX12_watch_107 kn_X12_202 ?_
        refine gq_rV1i (pc := 109) dX12_watch_109 cv_X12_54 sh_76 (k_errs (j := 2) (by decide) (by decide)) ⟨by decide, by decide⟩ rfl rfl (Nat.le_of_ble_eq_true rfl) ?_
        refine gq_goto (pc := 112) 116 dX12_watch_112 (by decide) ?_
        exact gq_iret (pc := 116) rfl dX12_watch_116 ⟨rfl, rfl⟩
    · exact absurd (by decide) h_42
  have fin1 : ge_B X ge_SH YX12_watch 44 (fun v2 g2 => v2 = (some (.int (-1000000002))) ∧ g2 = (ge_m (ge_up (ge_row g 79 r) 81 2 (g 81 2 + 1)) r (p_wf f r w 61))) 39 [(4, .int 1), (3, .int (nI (61))), (0, .ref (ge_ad X.1 76)), (1, .int v), (2, .int t)] [] (ge_m (ge_row g 79 r) (p_wS r w (61)) (p_wf f r w (61))) := by
    refine gq_iload_n (pc := 39) dX12_watch_39 rfl ?_
    refine gq_bipush (pc := 40) dX12_watch_40 kb_60 ?_
    refine gq_ic_gt (pc := 42) 88 dX12_watch_42 (by decide) (fun h_42 => ?_) (fun h_42 => ?_)
    · refine gq_aload_n (pc := 88) dX12_watch_88 rfl ?_
      refine gq_aload_n (pc := 89) dX12_watch_89 rfl ?_
      refine gq_getr (pc := 90) dX12_watch_90 fl_X12_16_12 sh_76 rfl ?_
      refine gq_aload_n (pc := 93) dX12_watch_93 rfl ?_
      refine gq_getr (pc := 94) dX12_watch_94 fl_X12_7_12 sh_76 rfl ?_
      refine gq_rV2v (pc := 97) dX12_watch_97 cv_X12_170 sh_76 (k_move_back sh_79 (by decide) (by decide) (by decide)) ⟨by decide, by decide⟩ rfl rfl (Nat.le_of_ble_eq_true rfl) ?_
      refine gq_tog (g := ge_m (ge_row g 79 r) r (p_wf f r w 61)) (by rw [ge_row_self]) ?_
      refine gq_iload_n (pc := 100) dX12_watch_100 rfl ?_
      refine gq_bipush (pc := 101) dX12_watch_101 kb_60 ?_
      refine gq_ic_le (pc := 103) 115 dX12_watch_103 (by decide) (fun h_103 => ?_) (fun h_103 => ?_)
      · exact absurd h_103 (by decide)
      · refine gq_aload_n (pc := 106) dX12_watch_106 rfl ?_
        refine gq_ldc (pc := 107) dX12_watch_107 kn_X12_202 ?_
        refine gq_rV1i (pc := 109) dX12_watch_109 cv_X12_54 sh_76 (k_errs (j := 2) (by decide) (by decide)) ⟨by decide, by decide⟩ rfl rfl (Nat.le_of_ble_eq_true rfl) ?_
        refine gq_goto (pc := 112) 116 dX12_watch_112 (by decide) ?_
        exact gq_iret (pc := 116) rfl dX12_watch_116 ⟨rfl, rfl⟩
    · exact absurd (by decide) h_42
  have key : ∀ (m i : Nat), i + m = 60 → p_fi (p_wp r w t) m i = p_wR r w t → ge_B X ge_SH YX12_watch 44 (fun v2 g2 => v2 = (some (.int (-1000000002))) ∧ g2 = (ge_m (ge_up (ge_row g 79 r) 81 2 (g 81 2 + 1)) r (p_wf f r w 61))) 39 [(4, .int 0), (3, .int (nI (i))), (0, .ref (ge_ad X.1 76)), (1, .int v), (2, .int t)] [] (ge_m (ge_row g 79 r) (p_wS r w (i)) (p_wf f r w (i))) := by
    intro m
    induction m with
    | zero =>
      intro i hi hR
      obtain rfl : i = 60 := hi
      have hR : 60 = p_wR r w t := hR
      obtain ⟨-, hb⟩ := p_wS_x (g := g) (c := c + 1) hwV 60 h
      have hh := (p_ok_uo (w := w) (k := 3) (v := 0) hb (by omega) (by omega) ⟨fun z => by omega, fun z => by omega, fun _ => ⟨0, by omega, rfl⟩⟩).1
      refine gq_iload_n (pc := 39) dX12_watch_39 rfl ?_
      refine gq_bipush (pc := 40) dX12_watch_40 kb_60 ?_
      refine gq_ic_gt (pc := 42) 88 dX12_watch_42 (by decide) (fun h_42 => ?_) (fun h_42 => ?_)
      · exact absurd h_42 (by decide)
      · refine gq_iload (pc := 45) dX12_watch_45 rfl ?_
        refine gq_if_ne (pc := 47) 88 dX12_watch_47 (by decide) (fun h_47 => ?_) (fun h_47 => ?_)
        · exact absurd h_47 (by decide)
        · refine gq_aload_n (pc := 50) dX12_watch_50 rfl ?_
          refine gq_iload_n (pc := 51) dX12_watch_51 rfl ?_
          refine gq_iconst (pc := 52) dX12_watch_52 kc_3 ?_
          refine gq_iconst (pc := 53) dX12_watch_53 kc_0 ?_
          refine gq_rV3v (pc := 54) dX12_watch_54 cv_X12_81 sh_76 (k_puts hw kl_3 (by omega)) ⟨by decide, by decide⟩ rfl rfl (Nat.le_of_ble_eq_true rfl) ?_
          refine gq_aload_n (pc := 57) dX12_watch_57 rfl ?_
          refine gq_rV0v (pc := 58) dX12_watch_58 cv_X12_188 sh_76 (k_oneHour hh) ⟨by decide, by decide⟩ rfl rfl (Nat.le_of_ble_eq_true rfl) ?_
          refine gq_tog (g := (ge_m (ge_row g 79 r) (p_wS r w (61)) (p_wf f r w (61)))) (by rw [p_wf_s]; rfl) ?_
          refine gq_iinc (pc := 61) (l' := [(3, _), (4, _), (0, _), (1, _), (2, _)]) dX12_watch_61 rfl (ge_inc1 60) (by decide) rfl ?_
          refine gq_aload_n (pc := 64) dX12_watch_64 rfl ?_
          refine gq_iload_n (pc := 65) dX12_watch_65 rfl ?_
          refine gq_iconst (pc := 66) dX12_watch_66 kc_3 ?_
          refine gq_rV2i (pc := 67) dX12_watch_67 cv_X12_63 sh_76 (k_ones hw kl_3 (by omega)) ⟨by decide, by decide⟩ rfl rfl (Nat.le_of_ble_eq_true rfl) ?_
          refine gq_iload_n (pc := 70) dX12_watch_70 rfl ?_
          refine gq_ishr (pc := 71) dX12_watch_71 ?_
          refine gq_iconst (pc := 72) dX12_watch_72 kc_1 ?_
          refine gq_iand (pc := 73) dX12_watch_73 ?_
          refine gq_iconst (pc := 74) dX12_watch_74 kc_1 ?_
          refine gq_ic_ne (pc := 75) 82 dX12_watch_75 (by decide) (fun h_75 => ?_) (fun h_75 => ?_)
          · refine gq_iconst (pc := 82) dX12_watch_82 kc_0 ?_
            refine gq_istore (pc := 83) (l' := [(4, _), (3, _), (0, _), (1, _), (2, _)]) dX12_watch_83 (by decide) rfl ?_
            refine gq_goto (pc := 85) 39 dX12_watch_85 (by decide) ?_
            refine gq_sub [0, 1, 2, 3, 4] rfl ?_
            exact fin0
          · refine gq_iconst (pc := 78) dX12_watch_78 kc_1 ?_
            refine gq_goto (pc := 79) 83 dX12_watch_79 (by decide) ?_
            refine gq_istore (pc := 83) (l' := [(4, _), (3, _), (0, _), (1, _), (2, _)]) dX12_watch_83 (by decide) rfl ?_
            refine gq_goto (pc := 85) 39 dX12_watch_85 (by decide) ?_
            refine gq_sub [0, 1, 2, 3, 4] rfl ?_
            exact fin1
    | succ m ih =>
      intro i hi hR
      obtain ⟨-, hb⟩ := p_wS_x (g := g) (c := c + (61 - i)) hwV i (by rw [show c + (61 - i) + i = c + 61 by omega]; exact h)
      have hh := (p_ok_weak (c' := c + 1) (p_ok_uo (w := w) (k := 3) (v := 0) hb (by omega) (by omega) ⟨fun z => by omega, fun z => by omega, fun _ => ⟨0, by omega, rfl⟩⟩) (by omega)).1
      have hat := p_wS_at (g := g) (c := c) (t := t1) hwV ht1 (i := i) (p_ok_weak h (by omega))
      rw [← ht] at hat
      refine gq_iload_n (pc := 39) dX12_watch_39 rfl ?_
      refine gq_bipush (pc := 40) dX12_watch_40 kb_60 ?_
      refine gq_ic_gt (pc := 42) 88 dX12_watch_42 (by decide) (fun h_42 => ?_) (fun h_42 => ?_)
      · exact absurd h_42 (nI_nlt (a := 60) (by omega) (by decide))
      · refine gq_iload (pc := 45) dX12_watch_45 rfl ?_
        refine gq_if_ne (pc := 47) 88 dX12_watch_47 (by decide) (fun h_47 => ?_) (fun h_47 => ?_)
        · exact absurd h_47 (by decide)
        · refine gq_aload_n (pc := 50) dX12_watch_50 rfl ?_
          refine gq_iload_n (pc := 51) dX12_watch_51 rfl ?_
          refine gq_iconst (pc := 52) dX12_watch_52 kc_3 ?_
          refine gq_iconst (pc := 53) dX12_watch_53 kc_0 ?_
          refine gq_rV3v (pc := 54) dX12_watch_54 cv_X12_81 sh_76 (k_puts hw kl_3 (by omega)) ⟨by decide, by decide⟩ rfl rfl (Nat.le_of_ble_eq_true rfl) ?_
          refine gq_aload_n (pc := 57) dX12_watch_57 rfl ?_
          refine gq_rV0v (pc := 58) dX12_watch_58 cv_X12_188 sh_76 (k_oneHour hh) ⟨by decide, by decide⟩ rfl rfl (Nat.le_of_ble_eq_true rfl) ?_
          refine gq_tog (g := (ge_m (ge_row g 79 r) (p_wS r w (i + 1)) (p_wf f r w (i + 1)))) (by rw [p_wf_s]; rfl) ?_
          refine gq_iinc (pc := 61) (l' := [(3, _), (4, _), (0, _), (1, _), (2, _)]) dX12_watch_61 rfl (ge_inc1 (i)) (by decide) rfl ?_
          refine gq_aload_n (pc := 64) dX12_watch_64 rfl ?_
          refine gq_iload_n (pc := 65) dX12_watch_65 rfl ?_
          refine gq_iconst (pc := 66) dX12_watch_66 kc_3 ?_
          refine gq_rV2i (pc := 67) dX12_watch_67 cv_X12_63 sh_76 (k_ones hw kl_3 (by omega)) ⟨by decide, by decide⟩ rfl rfl (Nat.le_of_ble_eq_true rfl) ?_
          refine gq_iload_n (pc := 70) dX12_watch_70 rfl ?_
          refine gq_ishr (pc := 71) dX12_watch_71 ?_
          refine gq_iconst (pc := 72) dX12_watch_72 kc_1 ?_
          refine gq_iand (pc := 73) dX12_watch_73 ?_
          refine gq_iconst (pc := 74) dX12_watch_74 kc_1 ?_
          refine gq_ic_ne (pc := 75) 82 dX12_watch_75 (by decide) (fun h_75 => ?_) (fun h_75 => ?_)
          · refine gq_iconst (pc := 82) dX12_watch_82 kc_0 ?_
            refine gq_istore (pc := 83) (l' := [(4, _), (3, _), (0, _), (1, _), (2, _)]) dX12_watch_83 (by decide) rfl ?_
            refine gq_goto (pc := 85) 39 dX12_watch_85 (by decide) ?_
            refine gq_sub [0, 1, 2, 3, 4] rfl ?_
            rw [p_fi_n (fun z => h_75 (hat.mpr z))] at hR
            exact ih (i + 1) (by omega) hR
          · refine gq_iconst (pc := 78) dX12_watch_78 kc_1 ?_
            refine gq_goto (pc := 79) 83 dX12_watch_79 (by decide) ?_
            refine gq_istore (pc := 83) (l' := [(4, _), (3, _), (0, _), (1, _), (2, _)]) dX12_watch_83 (by decide) rfl ?_
            refine gq_goto (pc := 85) 39 dX12_watch_85 (by decide) ?_
            rw [p_fi_y (hat.mp (by first | exact h_75 | exact Decidable.not_not.mp h_75))] at hR
            exact absurd hR (by omega)
  refine gq_aload_n (pc := 0) dX12_watch_0 rfl ?_
  refine gq_iload_n (pc := 1) dX12_watch_1 rfl ?_
  refine gq_rV1i (pc := 2) dX12_watch_2 cv_X12_84 sh_76 (k_isWearer _) ⟨by decide, by decide⟩ rfl rfl (Nat.le_of_ble_eq_true rfl) ?_
  refine gq_if_eq (pc := 5) 15 dX12_watch_5 (by decide) (fun h_5 => ?_) (fun h_5 => ?_)
  · exact absurd h_5 hin
  · refine gq_iload_n (pc := 8) dX12_watch_8 rfl ?_
    refine gq_rS1i (pc := 9) dX12_watch_9 cs_X12_45 (k_isThing _) ⟨by decide, by decide⟩ (Nat.le_of_ble_eq_true rfl) ?_
    refine gq_if_ne (pc := 12) 22 dX12_watch_12 (by decide) (fun h_12 => ?_) (fun h_12 => ?_)
    · refine gq_aload_n (pc := 22) dX12_watch_22 rfl ?_
      refine gq_aload_n (pc := 23) dX12_watch_23 rfl ?_
      refine gq_getr (pc := 24) dX12_watch_24 fl_X12_7_12 sh_76 rfl ?_
      refine gq_aload_n (pc := 27) dX12_watch_27 rfl ?_
      refine gq_getr (pc := 28) dX12_watch_28 fl_X12_16_12 sh_76 rfl ?_
      refine gq_rV2v (pc := 31) dX12_watch_31 cv_X12_170 sh_76 (k_move_to sh_79 (by decide) (by decide)) ⟨by decide, by decide⟩ rfl rfl (Nat.le_of_ble_eq_true rfl) ?_
      refine gq_iconst (pc := 34) dX12_watch_34 kc_0 ?_
      refine gq_istore_n (pc := 35) (l' := [(3, _), (0, _), (1, _), (2, _)]) dX12_watch_35 (by decide) rfl ?_
      refine gq_iconst (pc := 36) dX12_watch_36 kc_0 ?_
      refine gq_istore (pc := 37) (l' := [(4, _), (3, _), (0, _), (1, _), (2, _)]) dX12_watch_37 (by decide) rfl ?_
      refine gq_sub [0, 1, 2, 3, 4] rfl ?_
      exact key 60 0 (by omega) rfl
    · exact absurd h_12 hit
end T9
