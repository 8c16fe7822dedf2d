section T11
variable {X : ge_X} {g : ge_G} {r r' x hb r2 x2 hb2 f : Nat → Int32} {c V : Nat}
/-! one is spared: it keeps its eye -/
def p_sp (r : Nat → Int32) (w e : Nat) : Nat → Int32 := p_wear (p_uo r w 3 (p_o r w 3 ||| ((1 : Int32) <<< (p_shows r e &&& 31)))) (nI e)
def p_onesS (r : Nat → Int32) (w e : Nat) : Nat → Nat → Int32
  | 0 => r
  | k + 1 => if k = w then p_sp (p_onesS r w e k) w e else p_one (p_onesS r w e k) k
def p_xsS (x r : Nat → Int32) (w e : Nat) : Nat → Nat → Int32
  | 0 => x
  | k + 1 => if k = w then p_xsS x r w e k else p_xf (p_xsS x r w e k) (p_onesS r w e k) k
def p_hsS (hb r : Nat → Int32) (w e : Nat) : Nat → Nat → Int32
  | 0 => hb
  | k + 1 => upd (p_hsS hb r w e k) k (p_hf (p_onesS r w e k) k)
def p_hourS (r : Nat → Int32) (w e V : Nat) : Nat → Int32 := upd (p_onesS r w e V) 0 (p_onesS r w e V 0 + 1)
def p_hrsS (r : Nat → Int32) (w e V : Nat) : Nat → Nat → Int32
  | 0 => r
  | n + 1 => p_hourS (p_hrsS r w e V n) w e V
def p_xhS (x r : Nat → Int32) (w e V : Nat) : Nat → Nat → Int32
  | 0 => x
  | n + 1 => p_xsS (p_xhS x r w e V n) (p_hrsS r w e V n) w e V
def p_hhS (hb r : Nat → Int32) (w e V : Nat) : Nat → Nat → Int32
  | 0 => hb
  | n + 1 => p_hsS (p_hhS hb r w e V n) (p_hrsS r w e V n) w e V
def p_okS (g : ge_G) (c V : Nat) (r : Nat → Int32) (w e : Nat) : Prop := p_ok g c V r ∧ p_o r w 0 = nI e ∧ p_o r w 1 = -1 ∧ w < V ∧ e < 8
theorem p_xsS_18 {w e : Nat} : ∀ k, p_xsS x r w e k 18 = x 18 := by
  intro k
  induction k with
  | zero => rfl
  | succ k ih => unfold p_xsS; split; exact ih; rw [p_xf_18, ih]
theorem p_xhS_18 {w e : Nat} : ∀ n, p_xhS x r w e V n 18 = x 18 := by
  intro n
  induction n with
  | zero => rfl
  | succ n ih => unfold p_xhS; rw [p_xsS_18, ih]
theorem p_okS_seen {w e : Nat} (h : p_okS g c V r w e) : ∃ j, j < 1024 ∧ p_o r w 3 ||| ((1 : Int32) <<< (p_shows r e &&& 31)) = nI j := by
  obtain ⟨hk, -, -, hw, he⟩ := h
  have hV := hk.2.2.1
  obtain ⟨t, ht, et⟩ := p_shows_in hk.1 he
  obtain ⟨q, hq, eq⟩ := (hk.1.2.2.2.2.2.1 w (by omega)).2
  rw [eq, et]
  exact p_seen_in hq ht
theorem p_okS_u3 {w e : Nat} (h : p_okS g c V r w e) : p_okS g c V (p_uo r w 3 (p_o r w 3 ||| ((1 : Int32) <<< (p_shows r e &&& 31)))) w e := by
  have hs := p_okS_seen h
  obtain ⟨hk, h0, h1, hw, he⟩ := h
  have hV := hk.2.2.1
  exact ⟨p_ok_uo hk (by omega) (by omega) ⟨fun z => by omega, fun z => by omega, fun _ => hs⟩, by rw [p_o_uo _ _ _ _ _ _ (by omega) (by omega), if_neg (by omega)]; exact h0, by rw [p_o_uo _ _ _ _ _ _ (by omega) (by omega), if_neg (by omega)]; exact h1, hw, he⟩
theorem p_wear_nI {e : Nat} (he : e < 8) : p_wear r (nI e) = p_ue r e 3 (p_held (p_e r e 3 + 1) 0 9999) := by
  unfold p_wear
  rw [if_neg (nI_pos (by omega)), p_n_nI (by omega)]
theorem p_wear_m1 : p_wear r (-1) = r := if_pos (by decide)
theorem p_okS_sp {w e : Nat} (h : p_okS g c V r w e) : p_okS g c V (p_sp r w e) w e := by
  obtain ⟨hk, h0, h1, hw, he⟩ := p_okS_u3 h
  unfold p_sp
  rw [p_wear_nI he]
  exact ⟨p_ok_ue hk he (by omega) ⟨fun z => by omega, fun z => by omega, fun z => by omega, fun _ => p_held_in 9999 (by decide)⟩, by rw [p_o_ue _ _ _ _ _ _ he (by omega)]; exact h0, by rw [p_o_ue _ _ _ _ _ _ he (by omega)]; exact h1, hw, he⟩
theorem p_okS_one {w e k : Nat} (h : p_okS g c V r w e) (hk : k < V) (hn : k ≠ w) : p_okS g c V (p_one r k) w e := by
  obtain ⟨ho, h0, h1, hw, he⟩ := h
  have q0 := p_e1_eo (p_inv_e1 ho.1 ho.2.1 ho.2.2.1 (w := k) hk (s := 0) (by omega))
  have q1 := p_e1_eo (p_inv_e1 ho.1 ho.2.1 ho.2.2.1 (w := k) hk (s := 1) (by omega))
  exact ⟨p_ok_one ho hk, by rw [p_oo_one (by omega) q0 q1 (by omega)]; exact h0, by rw [p_oo_one (by omega) q0 q1 (by omega)]; exact h1, hw, he⟩
theorem p_okS_ones {w e : Nat} (h : p_okS g c V r w e) : ∀ k, k ≤ V → p_okS g c V (p_onesS r w e k) w e := by
  intro k
  induction k with
  | zero => intro _; exact h
  | succ k ih =>
    intro hk
    unfold p_onesS
    split
    · exact p_okS_sp (ih (by omega))
    · rename_i q; exact p_okS_one (ih (by omega)) (by omega) q
/-- what the hour brings to what matters of the eye -/
theorem p_keepS {w e : Nat} (h : p_okS g c V r w e) : ∀ k, k ≤ V → (∀ i, i < 18 → p_onesS r w e k i = r i) ∧ (∀ i, 74 ≤ i → p_onesS r w e k i = r i) ∧ (∀ i, i < 4 → p_e (p_onesS r w e k) e i = if i = 3 ∧ w < k then p_held (p_e r e 3 + 1) 0 9999 else p_e r e i) := by
  intro k
  induction k with
  | zero => intro _; exact ⟨fun _ _ => rfl, fun _ _ => rfl, fun i hi => by rw [if_neg (by omega)]; rfl⟩
  | succ k ih =>
    intro hk
    obtain ⟨a1, a2, a3⟩ := ih (by omega)
    obtain ⟨ho, h0, h1, hw, he⟩ := p_okS_ones h k (by omega)
    have hV := ho.2.2.1
    unfold p_onesS
    by_cases q : k = w
    · rw [if_pos q]
      subst q
      unfold p_sp
      rw [p_wear_nI he]
      refine ⟨fun i hi => ?_, fun i hi => ?_, fun i hi => ?_⟩
      · rw [p_lo_ue _ _ _ _ i hi, p_lo_uo _ _ _ _ i (by omega), a1 i hi]
      · unfold p_ue p_uo; rw [pk_un (by omega), pk_un (by omega), a2 i hi]
      · have a4 : ∀ i, i < 4 → p_e (p_onesS r k e k) e i = p_e r e i := fun i hi => by rw [a3 i hi, if_neg (fun y => absurd y.2 (Nat.lt_irrefl _))]
        rw [p_e_ue _ _ _ _ _ _ (by omega) hi, p_e_uo _ _ _ _ _ _ he (by omega), a4 3 (by omega), p_e_uo _ _ _ _ _ _ he hi, a4 i hi]
        by_cases z : i = 3
        · rw [if_pos ⟨rfl, z⟩, if_pos ⟨z, by omega⟩]
        · rw [if_neg (fun y => z y.2), if_neg (fun y => z y.1)]
    · rw [if_neg q]
      have q0 := p_e1_eo (p_inv_e1 ho.1 ho.2.1 ho.2.2.1 (w := k) (by omega) (s := 0) (by omega))
      have q1 := p_e1_eo (p_inv_e1 ho.1 ho.2.1 ho.2.2.1 (w := k) (by omega) (s := 1) (by omega))
      refine ⟨fun i hi => ?_, fun i hi => ?_, fun i hi => ?_⟩
      · rw [p_lo_one i hi, a1 i hi]
      · rw [p_hi_one (by omega) q0 q1 hi, a2 i hi]
      · rw [p_e_one he q0 q1 (p_uq_no ho.2.2.2.1 (by omega) hw (by omega) (show 0 < 2 by omega) q q0 h0 he) (p_uq_no ho.2.2.2.1 (by omega) hw (by omega) (show 0 < 2 by omega) q q1 h0 he) hi, a3 i hi]
        by_cases z : i = 3 ∧ w < k
        · rw [if_pos z, if_pos ⟨z.1, by omega⟩]
        · rw [if_neg z, if_neg (fun y => z ⟨y.1, by omega⟩)]
theorem p_okS_hour {w e : Nat} (h : p_okS g (c + 1) V r w e) : p_okS g c V (p_hourS r w e V) w e := by
  obtain ⟨⟨hI, e3, hV, hu, hL⟩, h0, h1, hw, he⟩ := p_okS_ones h V (Nat.le_refl _)
  have eo : ∀ w' k, p_o (p_hourS r w e V) w' k = p_o (p_onesS r w e V) w' k := fun w' k => by unfold p_hourS p_o upd; rw [if_neg (by omega)]
  have ee : ∀ e' k, p_e (p_hourS r w e V) e' k = p_e (p_onesS r w e V) e' k := fun e' k => by unfold p_hourS p_e upd; rw [if_neg (by omega)]
  have el : ∀ i, i ≠ 0 → p_hourS r w e V i = p_onesS r w e V i := fun i hi => pk_un hi
  refine ⟨⟨?_, by rw [el 3 (by decide)]; exact e3, hV, fun w1 w2 s1 s2 k1 k2 k3 k4 k5 => ?_, c_lw_of (el 6 (by decide)) (el 7 (by decide)) (fun i hi => el i (by omega)) hL⟩, by rw [eo]; exact h0, by rw [eo]; exact h1, hw, he⟩
  · obtain ⟨i1, i2, ⟨q, hq, eq⟩, ⟨E, hE, e2, W, hW, e3', hv⟩, i5, i6, i7⟩ := hI
    refine ⟨p_sz_of (el _ (by omega)) i1, p_sz_of (el _ (by omega)) i2, ⟨q + 1, by omega, ?_⟩, ⟨E, hE, by rw [el 2 (by decide)]; exact e2, W, hW, by rw [el 3 (by decide)]; exact e3', fun w hw s hs => by rw [eo]; exact hv w hw s hs⟩, fun e he => by rw [ee, ee, ee, ee]; exact i5 e he, fun w hw => by rw [eo, eo]; exact i6 w hw, fun t ht => by rw [el _ (by omega)]; exact i7 t ht⟩
    show p_onesS r w e V 0 + 1 = _
    rw [eq]; exact nI_1 q
  · rw [eo, eo] at k5
    rw [eo]
    exact hu w1 w2 s1 s2 k1 k2 k3 k4 k5
theorem p_okS_hrs {w e : Nat} : ∀ n, p_okS g (c + n) V r w e → p_okS g c V (p_hrsS r w e V n) w e := by
  intro n
  induction n generalizing c with
  | zero => intro h; exact h
  | succ n ih => intro h; exact p_okS_hour (ih (c := c + 1) (by rw [show c + 1 + n = c + (n + 1) by omega]; exact h))
theorem p_heededS {w e : Nat} (h0 : p_o r w 0 = nI e) (h1 : p_o r w 1 = -1) (he : e < 8) : p_heeded r w = nI e ∧ p_hf r w = p_shows r e := by
  have a : p_heeded r w = nI e := by
    unfold p_heeded
    rw [h0, h1, if_neg (nI_pos (by omega)), if_pos (by decide)]
  refine ⟨a, ?_⟩
  unfold p_hf
  rw [a, if_neg (nI_pos (by omega)), p_n_nI (by omega)]
/-- an eye's hours when it is worn all the while -/
def p_ssr (r : Nat → Int32) (e : Nat) : Nat → Nat → Int32
  | 0 => r
  | n + 1 => upd (p_wear (p_ssr r e n) (nI e)) 0 (p_wear (p_ssr r e n) (nI e) 0 + 1)
def p_sE (r : Nat → Int32) (e i : Nat) : Int32 := p_shows (p_ssr r e i) e
theorem p_ssr_x {e : Nat} (he : e < 8) : ∀ n, (∀ i, i ≠ 0 → i ≠ 18 + 4 * e + 3 → p_ssr r e n i = r i) := by
  intro n
  induction n with
  | zero => intro i _ _; rfl
  | succ n ih =>
    intro i h0 h1
    show upd _ 0 _ i = _
    rw [pk_un h0, p_wear_nI he]
    unfold p_ue
    rw [pk_un h1, ih i h0 h1]
theorem p_inv_ssr {e : Nat} (he : e < 8) : ∀ n, p_inv (c + n) r → p_inv c (p_ssr r e n) := by
  intro n
  induction n generalizing c with
  | zero => intro h; exact h
  | succ n ih =>
    intro h
    have a := p_inv_wear (ih (c := c + 1) (by rw [show c + 1 + n = c + (n + 1) by omega]; exact h)) (x := nI e) (Or.inr ⟨e, he, rfl⟩)
    show p_inv c (upd (p_wear (p_ssr r e n) (nI e)) 0 (p_wear (p_ssr r e n) (nI e) 0 + 1))
    generalize p_wear (p_ssr r e n) (nI e) = r1 at a
    obtain ⟨h1, h2, ⟨q, hq, eq⟩, ⟨E, hE, e2, V, hV, e3, hv⟩, h5, h6, h7⟩ := a
    refine ⟨p_sz_of rfl h1, p_sz_of rfl h2, ⟨q + 1, by omega, ?_⟩, ⟨E, hE, e2, V, hV, e3, fun w hw s hs => ?_⟩, fun e he => ?_, fun w hw => ?_, fun t ht => ?_⟩
    · show r1 0 + 1 = _; rw [eq]; exact nI_1 q
    · have : p_o (upd r1 0 (r1 0 + 1)) w s = p_o r1 w s := by unfold p_o upd; simp
      rw [this]; exact hv w hw s hs
    · have : ∀ k, p_e (upd r1 0 (r1 0 + 1)) e k = p_e r1 e k := fun k => by unfold p_e upd; simp
      rw [this, this, this, this]; exact h5 e he
    · have : ∀ k, p_o (upd r1 0 (r1 0 + 1)) w k = p_o r1 w k := fun k => by unfold p_o upd; simp
      rw [this, this]; exact h6 w hw
    · have : upd r1 0 (r1 0 + 1) (8 + t) = r1 (8 + t) := by unfold upd; simp
      rw [this]; exact h7 t ht
theorem p_ssr_S {w e : Nat} (r0 : Nat → Int32) (he : e < 8) (e0 : r 0 = r0 0) (e6 : r 6 = r0 6) (eh : ∀ i, 74 ≤ i → r i = r0 i) (ee : ∀ i, i < 4 → p_e r e i = p_e r0 e i) : ∀ n, p_okS g (c + n) V r w e →
    p_hrsS r w e V n 0 = p_ssr r0 e n 0 ∧ p_hrsS r w e V n 6 = p_ssr r0 e n 6 ∧ (∀ i, 74 ≤ i → p_hrsS r w e V n i = p_ssr r0 e n i) ∧ (∀ i, i < 4 → p_e (p_hrsS r w e V n) e i = p_e (p_ssr r0 e n) e i) := by
  intro n
  induction n generalizing c with
  | zero => intro _; exact ⟨e0, e6, eh, ee⟩
  | succ n ih =>
    intro h
    have h' : p_okS g (c + 1 + n) V r w e := by rw [show c + 1 + n = c + (n + 1) by omega]; exact h
    obtain ⟨a0, a6, ah, ae⟩ := ih (c := c + 1) h'
    have hk := p_okS_hrs n h'
    have hw : w < V := hk.2.2.2.1
    obtain ⟨b1, b2, b3⟩ := p_keepS hk V (Nat.le_refl _)
    refine ⟨?_, ?_, fun i hi => ?_, fun i hi => ?_⟩
    · show p_onesS (p_hrsS r w e V n) w e V 0 + 1 = p_wear (p_ssr r0 e n) (nI e) 0 + 1
      rw [b1 0 (by omega), p_lo_wear 0 (by omega), a0]
    · show p_hourS (p_hrsS r w e V n) w e V 6 = _
      unfold p_hourS
      rw [pk_un (by decide), b1 6 (by omega), a6, p_ssr_x he (n + 1) 6 (by omega) (by omega), p_ssr_x he n 6 (by omega) (by omega)]
    · show p_hourS (p_hrsS r w e V n) w e V i = _
      unfold p_hourS
      rw [pk_un (by omega), b2 i hi, ah i hi, p_ssr_x he (n + 1) i (by omega) (by omega), p_ssr_x he n i (by omega) (by omega)]
    · have q : ∀ (R : Nat → Int32) (v : Int32), p_e (upd R 0 v) e i = p_e R e i := fun R v => by unfold p_e; rw [pk_un (by omega)]
      show p_e (upd (p_onesS (p_hrsS r w e V n) w e V) 0 (p_onesS (p_hrsS r w e V n) w e V 0 + 1)) e i = p_e (upd (p_wear (p_ssr r0 e n) (nI e)) 0 (p_wear (p_ssr r0 e n) (nI e) 0 + 1)) e i
      rw [q, q, b3 i hi, p_wear_nI he, p_e_ue _ _ _ _ _ _ (by omega) hi, ae i hi, ae 3 (by omega)]
      by_cases z : i = 3
      · rw [if_pos ⟨z, hw⟩, if_pos ⟨rfl, z⟩]
      · rw [if_neg (fun y => z y.1), if_neg (fun y => z y.2)]
theorem p_hsS_at {w e : Nat} {hb : Nat → Int32} : ∀ k w', w' < k → p_hsS hb r w e k w' = p_hf (p_onesS r w e w') w' := by
  intro k
  induction k with
  | zero => intro w' h; omega
  | succ k ih =>
    intro w' h
    show upd (p_hsS hb r w e k) k (p_hf (p_onesS r w e k) k) w' = _
    by_cases q : w' = k
    · subst q; unfold upd; rw [if_pos rfl]
    · rw [pk_un q, ih w' (by omega)]
/-- what the spared one heeds in hour i -/
theorem p_hhS_at {w e n : Nat} {hb : Nat → Int32} (r0 : Nat → Int32) (e0 : r 0 = r0 0) (e6 : r 6 = r0 6) (eh : ∀ i, 74 ≤ i → r i = r0 i) (ee : ∀ i, i < 4 → p_e r e i = p_e r0 e i) (h : p_okS g (c + n) V r w e) : p_hhS hb r w e V (n + 1) w = p_sE r0 e n := by
  have hk := p_okS_hrs n h
  obtain ⟨-, -, -, hw, he⟩ := id hk
  obtain ⟨a0, a6, ah, ae⟩ := p_ssr_S r0 he e0 e6 eh ee n h
  show p_hsS (p_hhS hb r w e V n) (p_hrsS r w e V n) w e V w = _
  rw [p_hsS_at V w hw]
  obtain ⟨b1, b2, b3⟩ := p_keepS hk w (by omega)
  obtain ⟨-, q0, q1, -, -⟩ := p_okS_ones hk w (by omega)
  rw [(p_heededS q0 q1 he).2]
  refine p_shows_c ?_ ?_ (fun i hi => ?_) (fun i hi => ?_)
  · rw [b1 0 (by omega), a0]
  · rw [b1 6 (by omega), a6]
  · rw [b2 i hi, ah i hi]
  · rw [b3 i hi, if_neg (by omega), ae i hi]
set_option maxHeartbeats 1000000 in
theorem k_passS_35 {w : Int32} {i j : Nat} (h : p_okS g c V r i j) (hw : w = nI i) (hsp : w = x 18) : ge_N X ge_SH YX10_passFor 4 [.ref (ge_ad X.1 35), .int w] (ge_k g 35 r x hb) none (ge_k g 35 (p_sp r i j) x (upd hb i (p_hf r i))) := by
  obtain ⟨hI1, k0, k1, -, -⟩ := p_okS_u3 h
  obtain ⟨⟨hI, e3, hV, hu, hL⟩, h0, h1, hiV, hj⟩ := id h
  obtain ⟨hd, hf⟩ := p_heededS h0 h1 hj
  obtain ⟨t, ht, et⟩ := p_shows_in hI hj
  obtain ⟨S, hS⟩ : ∃ S, S = (p_o r i 3 ||| ((1 : Int32) <<< (p_shows r j &&& 31))) := ⟨_, rfl⟩
  rw [← hS] at hI1 k0 k1
  have a2 : p_inv c (p_wear (p_uo r i 3 S) (nI j)) := p_inv_wear hI1.1 (Or.inr ⟨j, hj, rfl⟩)
  have k2 : p_o (p_wear (p_uo r i 3 S) (nI j)) i 1 = -1 := by rw [p_o_wear (Or.inr ⟨j, hj, rfl⟩)]; exact k1
  refine gq_ofB (l := [(0, .ref (ge_ad X.1 35)), (1, .int w)]) (by decide) (Nat.le_of_ble_eq_true rfl) rfl ?_
  refine gq_aload_n (pc := 0) dX10_passFor_0 rfl ?_
  refine gq_iload_n (pc := 1) dX10_passFor_1 rfl ?_
  refine gq_rV1i (pc := 2) dX10_passFor_2 cv_X10_111 sh_35 (k_heed_35 hI hL hw (by omega) (Or.inr ⟨j, hj, h0⟩) (Or.inl h1)) ⟨by decide, by decide⟩ rfl rfl (Nat.le_of_ble_eq_true rfl) ?_
  rw [hd]
  refine gq_istore_n (pc := 5) (l' := [(2, _), (0, _), (1, _)]) dX10_passFor_5 (by decide) rfl ?_
  refine gq_iload_n (pc := 6) dX10_passFor_6 rfl ?_
  refine gq_iconst (pc := 7) dX10_passFor_7 kc_m1 ?_
  refine gq_ic_ne (pc := 8) 39 dX10_passFor_8 (by decide) (fun h_8 => ?_) (fun h_8 => ?_)
  · refine gq_aload_n (pc := 39) dX10_passFor_39 rfl ?_
    refine gq_iload_n (pc := 40) dX10_passFor_40 rfl ?_
    refine gq_rV1i (pc := 41) dX10_passFor_41 cv_X10_105 sh_35 (k_thing_35 hI hL rfl hj) ⟨by decide, by decide⟩ rfl rfl (Nat.le_of_ble_eq_true rfl) ?_
    refine gq_istore_n (pc := 44) (l' := [(3, _), (2, _), (0, _), (1, _)]) dX10_passFor_44 (by decide) rfl ?_
    refine gq_aload_n (pc := 45) dX10_passFor_45 rfl ?_
    refine gq_getr (pc := 46) dX10_passFor_46 fl_X10_44_10 sh_35 rfl ?_
    refine gq_iload_n (pc := 49) dX10_passFor_49 rfl ?_
    refine gq_iload_n (pc := 50) dX10_passFor_50 rfl ?_
    refine kq_ast9 (pw := 35) (pc := 51) (by decide) dX10_passFor_51 hw (by first | decide | omega) ?_
    refine gq_aload_n (pc := 52) dX10_passFor_52 rfl ?_
    refine gq_getr (pc := 53) dX10_passFor_53 fl_X10_41_10 sh_35 rfl ?_
    refine gq_iload_n (pc := 56) dX10_passFor_56 rfl ?_
    refine gq_dup2 (pc := 57) dX10_passFor_57 rfl rfl ?_
    refine kq_ald8 (pw := 35) (pc := 58) (by decide) dX10_passFor_58 hw (by first | decide | omega) ?_
    refine gq_iconst (pc := 59) dX10_passFor_59 kc_1 ?_
    refine gq_iload_n (pc := 60) dX10_passFor_60 rfl ?_
    refine gq_ishl (pc := 61) dX10_passFor_61 ?_
    refine gq_ior (pc := 62) dX10_passFor_62 ?_
    rw [← hS]
    refine kq_ast8 (pw := 35) (pc := 63) (by decide) dX10_passFor_63 hw (by first | decide | omega) ?_
    refine gq_iload_n (pc := 64) dX10_passFor_64 rfl ?_
    refine gq_aload_n (pc := 65) dX10_passFor_65 rfl ?_
    refine kq_get18 (pw := 35) (pc := 66) (by decide) dX10_passFor_66 fl_X10_54_10 ?_
    refine gq_ic_eq (pc := 69) 117 dX10_passFor_69 (by decide) (fun h_69 => ?_) (fun h_69 => ?_)
    · refine gq_aload_n (pc := 117) dX10_passFor_117 rfl ?_
      refine gq_aload_n (pc := 118) dX10_passFor_118 rfl ?_
      refine gq_getr (pc := 119) dX10_passFor_119 fl_X10_35_10 sh_35 rfl ?_
      refine gq_iconst (pc := 122) dX10_passFor_122 kc_2 ?_
      refine gq_iload_n (pc := 123) dX10_passFor_123 rfl ?_
      refine gq_imul (pc := 124) dX10_passFor_124 ?_
      refine gq_iconst (pc := 125) dX10_passFor_125 kc_0 ?_
      refine gq_iadd (pc := 126) dX10_passFor_126 ?_
      refine kq_ald6 (pw := 35) (pc := 127) (by decide) dX10_passFor_127 (ge_nadd (ge_nmul kl_2 hw) kl_0) (by omega) (by omega) ?_
      rw [k0]
      refine gq_rV1v (pc := 128) dX10_passFor_128 cv_X10_123 sh_35 (k_wearOn_35 hI1.1 (Or.inr ⟨j, hj, rfl⟩)) ⟨by decide, by decide⟩ rfl rfl (Nat.le_of_ble_eq_true rfl) ?_
      refine gq_aload_n (pc := 131) dX10_passFor_131 rfl ?_
      refine gq_aload_n (pc := 132) dX10_passFor_132 rfl ?_
      refine gq_getr (pc := 133) dX10_passFor_133 fl_X10_35_10 sh_35 rfl ?_
      refine gq_iconst (pc := 136) dX10_passFor_136 kc_2 ?_
      refine gq_iload_n (pc := 137) dX10_passFor_137 rfl ?_
      refine gq_imul (pc := 138) dX10_passFor_138 ?_
      refine gq_iconst (pc := 139) dX10_passFor_139 kc_1 ?_
      refine gq_iadd (pc := 140) dX10_passFor_140 ?_
      refine kq_ald6 (pw := 35) (pc := 141) (by decide) dX10_passFor_141 (ge_nadd (ge_nmul kl_2 hw) kl_1) (by omega) (by omega) ?_
      rw [k2]
      refine gq_rV1v (pc := 142) dX10_passFor_142 cv_X10_123 sh_35 (k_wearOn_35 a2 (Or.inl rfl)) ⟨by decide, by decide⟩ rfl rfl (Nat.le_of_ble_eq_true rfl) ?_
      refine gq_tog (g := ge_k g 35 (p_sp r i j) x (upd hb i (p_hf r i))) (by rw [hf]; unfold p_sp; rw [← hS, p_wear_m1]) ?_
      refine gq_iload_n (pc := 145) dX10_passFor_145 rfl ?_
      refine gq_aload_n (pc := 146) dX10_passFor_146 rfl ?_
      refine kq_get18 (pw := 35) (pc := 147) (by decide) dX10_passFor_147 fl_X10_54_10 ?_
      refine gq_ic_eq (pc := 150) 168 dX10_passFor_150 (by decide) (fun h_150 => ?_) (fun h_150 => ?_)
      · exact gq_vret (pc := 168) rfl dX10_passFor_168 ⟨rfl, rfl⟩
      · exact absurd hsp h_150
    · exact absurd hsp h_69
  · exact absurd (show nI j < 0 by rw [h_8]; decide) (nI_pos (by omega))
set_option maxHeartbeats 1000000 in
theorem k_hourS_35 {i j : Nat} (h : p_okS g (c + 1) V r i j) (hx : x 18 = nI i) : ge_N X ge_SH YX10_passHours 5 [.ref (ge_ad X.1 35), .int 1] (ge_k g 35 r x hb) none (ge_k g 35 (p_hourS r i j V) (p_xsS x r i j V) (p_hsS hb r i j V)) := by
  have hV := h.1.2.2.1
  refine gq_ofB (l := [(0, .ref (ge_ad X.1 35)), (1, .int 1)]) (by decide) (Nat.le_of_ble_eq_true rfl) rfl ?_
  have last : ge_B X ge_SH YX10_passHours 5 (fun v2 g2 => v2 = none ∧ g2 = (ge_k g 35 (p_hourS r i j V) (p_xsS x r i j V) (p_hsS hb r i j V))) 2 [(2, .int 1), (0, .ref (ge_ad X.1 35)), (1, .int 1)] [] (ge_k g 35 (p_hourS r i j V) (p_xsS x r i j V) (p_hsS hb r i j V)) := by
    refine gq_iload_n (pc := 2) dX10_passHours_2 rfl ?_
    refine gq_iload_n (pc := 3) dX10_passHours_3 rfl ?_
    refine gq_ic_ge (pc := 4) 44 dX10_passHours_4 (by decide) (fun h_4 => ?_) (fun h_4 => ?_)
    · exact gq_vret (pc := 44) rfl dX10_passHours_44 ⟨rfl, rfl⟩
    · exact absurd h_4 (by decide)
  have inner : ∀ (m2 w : Nat), w + m2 = V → ge_B X ge_SH YX10_passHours 5 (fun v2 g2 => v2 = none ∧ g2 = (ge_k g 35 (p_hourS r i j V) (p_xsS x r i j V) (p_hsS hb r i j V))) 9 [(3, .int (nI w)), (2, .int 0), (0, .ref (ge_ad X.1 35)), (1, .int 1)] [] (ge_k g 35 (p_onesS r i j w) (p_xsS x r i j w) (p_hsS hb r i j w)) := by
    intro m2
    induction m2 with
    | zero =>
      intro w hw
      obtain rfl : w = V := hw
      have hw2 := (p_okS_ones h w (Nat.le_refl _)).1
      refine gq_iload_n (pc := 9) dX10_passHours_9 rfl ?_
      refine gq_aload_n (pc := 10) dX10_passHours_10 rfl ?_
      refine kq_get12 (pw := 35) (pc := 11) (by decide) dX10_passHours_11 fl_X10_66_10 ?_
      rw [hw2.2.1]
      refine gq_ic_ge (pc := 14) 28 dX10_passHours_14 (by decide) (fun h_14 => ?_) (fun h_14 => ?_)
      · refine gq_aload_n (pc := 28) dX10_passHours_28 rfl ?_
        refine gq_dup (pc := 29) dX10_passHours_29 rfl ?_
        refine kq_get13 (pw := 35) (pc := 30) (by decide) dX10_passHours_30 fl_X10_69_10 ?_
        refine gq_iconst (pc := 33) dX10_passHours_33 kc_1 ?_
        refine gq_iadd (pc := 34) dX10_passHours_34 ?_
        refine kq_put13 (pw := 35) (pc := 35) (by decide) dX10_passHours_35 fp_X10_69_10 ?_
        refine gq_iinc (pc := 38) (l' := [(2, _), (3, _), (0, _), (1, _)]) dX10_passHours_38 rfl (by decide : (0 : Int32) + Int32.ofInt 1 = 1) (by decide) rfl ?_
        refine gq_goto (pc := 41) 2 dX10_passHours_41 (by decide) ?_
        refine gq_sub [0, 2, 3] rfl ?_
        exact last
      · exact absurd (Int32.le_refl _) h_14
    | succ m2 ih2 =>
      intro w hw
      have hS := p_okS_ones h w (by omega)
      have hw2 := hS.1
      have e18 : p_xsS x r i j w 18 = nI i := by rw [p_xsS_18]; exact hx
      by_cases q : w = i
      · subst q
        have hS2 := hS
        have z1 : p_onesS r w j (w + 1) = p_sp (p_onesS r w j w) w j := if_pos rfl
        have z2 : p_xsS x r w j (w + 1) = p_xsS x r w j w := if_pos rfl
        have z3 : p_hsS hb r w j (w + 1) = upd (p_hsS hb r w j w) w (p_hf (p_onesS r w j w) w) := rfl
        have zz := ih2 (w + 1) (by omega)
        rw [z1, z2, z3] at zz
        refine gq_iload_n (pc := 9) dX10_passHours_9 rfl ?_
        refine gq_aload_n (pc := 10) dX10_passHours_10 rfl ?_
        refine kq_get12 (pw := 35) (pc := 11) (by decide) dX10_passHours_11 fl_X10_66_10 ?_
        rw [hw2.2.1]
        refine gq_ic_ge (pc := 14) 28 dX10_passHours_14 (by decide) (fun h_14 => ?_) (fun h_14 => ?_)
        · exact absurd ((nI_leI (by omega) (by omega)).mp h_14) (by omega)
        · refine gq_aload_n (pc := 17) dX10_passHours_17 rfl ?_
          refine gq_iload_n (pc := 18) dX10_passHours_18 rfl ?_
          refine gq_rV1v (pc := 19) dX10_passHours_19 cv_X10_108 sh_35 (k_passS_35 hS2 rfl (by rw [e18])) ⟨by decide, by decide⟩ rfl rfl (Nat.le_of_ble_eq_true rfl) ?_
          refine gq_iinc (pc := 22) (l' := [(3, _), (2, _), (0, _), (1, _)]) dX10_passHours_22 rfl (ge_inc1 w) (by decide) rfl ?_
          refine gq_goto (pc := 25) 9 dX10_passHours_25 (by decide) ?_
          exact zz
      · have z1 : p_onesS r i j (w + 1) = p_one (p_onesS r i j w) w := if_neg q
        have z2 : p_xsS x r i j (w + 1) = p_xf (p_xsS x r i j w) (p_onesS r i j w) w := if_neg q
        have z3 : p_hsS hb r i j (w + 1) = upd (p_hsS hb r i j w) w (p_hf (p_onesS r i j w) w) := rfl
        have zz := ih2 (w + 1) (by omega)
        rw [z1, z2, z3] at zz
        have hiV := h.2.2.2.1
        refine gq_iload_n (pc := 9) dX10_passHours_9 rfl ?_
        refine gq_aload_n (pc := 10) dX10_passHours_10 rfl ?_
        refine kq_get12 (pw := 35) (pc := 11) (by decide) dX10_passHours_11 fl_X10_66_10 ?_
        rw [hw2.2.1]
        refine gq_ic_ge (pc := 14) 28 dX10_passHours_14 (by decide) (fun h_14 => ?_) (fun h_14 => ?_)
        · exact absurd ((nI_leI (by omega) (by omega)).mp h_14) (by omega)
        · refine gq_aload_n (pc := 17) dX10_passHours_17 rfl ?_
          refine gq_iload_n (pc := 18) dX10_passHours_18 rfl ?_
          refine gq_rV1v (pc := 19) dX10_passHours_19 cv_X10_108 sh_35 (k_pass_35 hw2.1 hw2.2.2.2.2 hV hw2.2.1 rfl (by omega) hw2.2.2.2.1 (by rw [e18]; exact fun z => q ((nI_eq (by omega) (by omega)).mp z)) (p_inv_e1 hw2.1 hw2.2.1 hV (by omega) (by omega)) (p_inv_e1 hw2.1 hw2.2.1 hV (by omega) (by omega))) ⟨by decide, by decide⟩ rfl rfl (Nat.le_of_ble_eq_true rfl) ?_
          refine gq_iinc (pc := 22) (l' := [(3, _), (2, _), (0, _), (1, _)]) dX10_passHours_22 rfl (ge_inc1 w) (by decide) rfl ?_
          refine gq_goto (pc := 25) 9 dX10_passHours_25 (by decide) ?_
          exact zz
  refine gq_iconst (pc := 0) dX10_passHours_0 kc_0 ?_
  refine gq_istore_n (pc := 1) (l' := [(2, _), (0, _), (1, _)]) dX10_passHours_1 (by decide) rfl ?_
  refine gq_iload_n (pc := 2) dX10_passHours_2 rfl ?_
  refine gq_iload_n (pc := 3) dX10_passHours_3 rfl ?_
  refine gq_ic_ge (pc := 4) 44 dX10_passHours_4 (by decide) (fun h_4 => ?_) (fun h_4 => ?_)
  · exact absurd h_4 (by decide)
  · refine gq_iconst (pc := 7) dX10_passHours_7 kc_0 ?_
    refine gq_istore_n (pc := 8) (l' := [(3, _), (2, _), (0, _), (1, _)]) dX10_passHours_8 (by decide) rfl ?_
    refine gq_sub [0, 1, 2, 3] rfl ?_
    exact inner V 0 (by omega)
end T11
