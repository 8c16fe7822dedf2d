section I0
variable {X : ge_X} {S : List ge_S} {y : ge_Y} {d : Nat} {a : List Value} {Q : Option Value → ge_G → Prop} {g g' : ge_G}
theorem ge_P_ag (h : ge_ag S g g') {A : Array Value} {U : State} (hp : ge_P X S g a A U) : ge_P X S g' a A U := ⟨hp.1, ge_H_ag h hp.2.1, hp.2.2⟩
theorem ge_Mag (h : ge_ag S g g') (k : ge_M X S y d a g' Q) : ge_M X S y d a g Q := by
  intro lc p e h1 h2 h3 s m args below h4 h5 h6 h7
  exact k lc p e h1 h2 h3 s m args below h4 h5 (ge_P_ag h h6) h7
theorem ge_NQag (h : ge_ag S g g') (k : ge_NQ X S y d a g' Q) : ge_NQ X S y d a g Q := by
  classical
  intro g1 hg
  refine ge_Mag (g' := fun p i => if ∃ a, S[p]? = some a ∧ i < ge_len a then g1 p i else g' p i) (fun p a ha i hi => ?_) (k _ (fun p i hz => ?_))
  · exact (if_pos ⟨a, ha, hi⟩).symm
  · by_cases hc : ∃ a, S[p]? = some a ∧ i < ge_len a
    · rw [if_pos hc]
      obtain ⟨a, ha, hi⟩ := hc
      rw [hg p i hz]
      exact h p a ha i hi
    · rw [if_neg hc]
end I0
section I1
variable {X : ge_X} {n : Nat} {g g1 g2 : ge_G} {r r1 x x1 hb hb1 f f1 : Nat → Int32}
/-- the places that calls stand on (the World's own and the reference's row and fields apart) -/
def ge_L (q : Nat) : Prop := q ≤ 2 ∨ (13 ≤ q ∧ q ≤ 16) ∨ (20 ≤ q ∧ q ≤ 23) ∨ (45 ≤ q ∧ q ≤ 54) ∨ (58 ≤ q ∧ q ≤ 65) ∨ (67 ≤ q ∧ q ≤ 75) ∨ q = 78 ∨ (81 ≤ q ∧ q ≤ 84) ∨ q = 86
def i_tape (g : ge_G) (r : Nat → Int32) (p : Nat) : Prop := ∃ N, N ≤ 50 ∧ r 4 = nI N ∧ g p 1 = nI N ∧ ∀ k, k < N → g (p + 1) k = r (74 + k)
def i_wait (g : ge_G) (r : Nat → Int32) (p : Nat) : Prop := ∃ N, N ≤ 20 ∧ r 5 = nI N ∧ g p 1 = nI N ∧ ∀ k, k < N → g (p + 1) k = r (124 + k)
def i_sh (g : ge_G) (s : Nat) : Prop := ∃ (b : Int32) (m : Nat), (b = 0 ∨ b = 8 ∨ b = 16 ∨ b = 32) ∧ m ≤ 40 ∧ g 82 s = b ∧ g (67 + 2 * s) 2 = b ∧ g 83 s = nI m ∧ g (67 + 2 * s) 1 = nI m ∧ ∀ k, k < m → ∃ v, g (68 + 2 * s) k = p_low b v ∧ g 84 (40 * s + k) = p_nar b v
def i_er (g : ge_G) : Prop := ∀ k, 1 ≤ k → k ≤ 5 → g 75 k = g 81 k
def i_tr (g : ge_G) (f : Nat → Int32) : Prop := ∃ m, m ≤ 40 ∧ f 22 = nI m ∧ g 1 1 = nI m ∧ ∀ k, k < m → g 2 k = g 86 k
def i_row (r : Nat → Int32) : Prop := ∃ V, p_inv 10000 r ∧ r 3 = nI V ∧ V ≤ 6 ∧ p_uq V r
def c_lwk (g : ge_G) (r : Nat → Int32) : Prop := (∃ L, c_law g 20 L ∧ ∀ A B C, p_max 0 (p_min 99 (L A B C)) = p_law r 0 A B C) ∧ (∃ L, c_law g 22 L ∧ ∀ A B C, p_max 0 (p_min 1 (L A B C)) = p_law r 1 A B C)
def i_kp (g : ge_G) (r : Nat → Int32) : Prop := ge_wr g 45 r ∧ i_row r ∧ c_lwk g r ∧ i_tape g r 60 ∧ i_wait g r 64
def i_im (n : Nat) (g : ge_G) (f : Nat → Int32) : Prop := ∃ m, m ≤ n ∧ f 5 = nI m ∧ g 0 14 = nI m ∧ f 4 = p_b (decide (¬ m = 0)) ∧ (¬ m = 0 → i_kp g (g 78))
def i_J (n : Nat) (g : ge_G) (r x f : Nat → Int32) : Prop := (∃ V, p_ok g 10000 V r) ∧ i_tape g r 58 ∧ i_wait g r 62 ∧ (∀ s, s < 4 → i_sh g s) ∧ i_er g ∧ i_tr g f ∧ i_im n g f ∧ x 18 = -1
/-- the two objects behind n calls -/
def ge_I (n : Nat) (G : ge_G) : Prop := ∃ g x hb, ge_ag ge_SH G (ge_k g 25 (g 77) x hb) ∧ i_J n g (g 77) x (g 76)
theorem c_law_P {p : Nat} {L : Int32 → Int32 → Int32 → Int32} (h0 : g2 p = g p) (h1 : g2 (p + 1) = g (p + 1)) (h : c_law g p L) : c_law g2 p L := by
  unfold c_law c_code at *
  rw [h0, h1]
  exact h
theorem c_lw_P (h : ∀ q, 13 ≤ q → q ≤ 16 → g2 q = g q) (hL : c_lw g r) : c_lw g2 r := by
  obtain ⟨⟨L, a1, a2⟩, ⟨N, b1, b2⟩⟩ := hL
  exact ⟨⟨L, c_law_P (h 13 (by omega) (by omega)) (h 14 (by omega) (by omega)) a1, a2⟩, ⟨N, c_law_P (h 15 (by omega) (by omega)) (h 16 (by omega) (by omega)) b1, b2⟩⟩
theorem p_ok_P {c V : Nat} (h : ∀ q, 13 ≤ q → q ≤ 16 → g2 q = g q) (hL : p_ok g c V r) : p_ok g2 c V r := ⟨hL.1, hL.2.1, hL.2.2.1, hL.2.2.2.1, c_lw_P h hL.2.2.2.2⟩
theorem i_tape_P {p : Nat} (h0 : g2 p = g p) (h1 : g2 (p + 1) = g (p + 1)) (h : i_tape g r p) : i_tape g2 r p := by
  unfold i_tape at *
  rw [h0, h1]
  exact h
theorem i_wait_P {p : Nat} (h0 : g2 p = g p) (h1 : g2 (p + 1) = g (p + 1)) (h : i_wait g r p) : i_wait g2 r p := by
  unfold i_wait at *
  rw [h0, h1]
  exact h
theorem i_sh_P {s : Nat} (hs : s < 4) (h : ∀ q, (67 ≤ q ∧ q ≤ 74) ∨ (82 ≤ q ∧ q ≤ 84) → g2 q = g q) (hi : i_sh g s) : i_sh g2 s := by
  unfold i_sh at *
  rw [h 82 (by omega), h 83 (by omega), h 84 (by omega), h (67 + 2 * s) (by omega), h (68 + 2 * s) (by omega)]
  exact hi
theorem i_er_P (h0 : g2 75 = g 75) (h1 : g2 81 = g 81) (h : i_er g) : i_er g2 := by
  unfold i_er at *
  rw [h0, h1]
  exact h
theorem i_tr_P (h : ∀ q, q ≤ 2 ∨ q = 86 → g2 q = g q) (hf : f1 22 = f 22) (hi : i_tr g f) : i_tr g2 f1 := by
  unfold i_tr at *
  rw [h 1 (by omega), h 2 (by omega), h 86 (by omega), hf]
  exact hi
theorem c_lwk_P (h : ∀ q, 20 ≤ q → q ≤ 23 → g2 q = g q) (hL : c_lwk g r) : c_lwk g2 r := by
  obtain ⟨⟨L, a1, a2⟩, ⟨N, b1, b2⟩⟩ := hL
  exact ⟨⟨L, c_law_P (h 20 (by omega) (by omega)) (h 21 (by omega) (by omega)) a1, a2⟩, ⟨N, c_law_P (h 22 (by omega) (by omega)) (h 23 (by omega) (by omega)) b1, b2⟩⟩
theorem i_kp_P (h : ∀ q, (20 ≤ q ∧ q ≤ 23) ∨ (45 ≤ q ∧ q ≤ 54) ∨ (60 ≤ q ∧ q ≤ 65) → g2 q = g q) (hk : i_kp g r) : i_kp g2 r := by
  obtain ⟨a1, a2, a3, a4, a5⟩ := hk
  refine ⟨?_, a2, c_lwk_P (fun q q1 q2 => h q (by omega)) a3, i_tape_P (h 60 (by omega)) (h 61 (by omega)) a4, i_wait_P (h 64 (by omega)) (h 65 (by omega)) a5⟩
  unfold ge_wr at *
  rw [h 45 (by omega), h (45 + 1) (by omega), h (45 + 2) (by omega), h (45 + 3) (by omega), h (45 + 4) (by omega), h (45 + 5) (by omega), h (45 + 6) (by omega), h (45 + 7) (by omega), h (45 + 8) (by omega)]
  exact a1
theorem i_im_P (h : ∀ q, q ≤ 2 ∨ (20 ≤ q ∧ q ≤ 23) ∨ (45 ≤ q ∧ q ≤ 54) ∨ (60 ≤ q ∧ q ≤ 65) ∨ q = 78 → g2 q = g q) (h4 : f1 4 = f 4) (h5 : f1 5 = f 5) (hi : i_im n g f) : i_im (n + 1) g2 f1 := by
  obtain ⟨m, q1, q2, q3, q4, q5⟩ := hi
  refine ⟨m, by omega, by rw [h5]; exact q2, by rw [h 0 (by omega)]; exact q3, by rw [h4]; exact q4, fun z => ?_⟩
  rw [h 78 (by omega)]
  exact i_kp_P (fun q hq => h q (by omega)) (q5 z)
/-- nothing that counts has changed -/
theorem i_J_P (h : ∀ q, ge_L q → g2 q = g q) (hf : f1 4 = f 4 ∧ f1 5 = f 5 ∧ f1 22 = f 22) (hx : x1 18 = -1) (hJ : i_J n g r x f) : i_J (n + 1) g2 r x1 f1 := by
  obtain ⟨⟨V, a1⟩, a2, a3, a4, a5, a6, a7, a8⟩ := hJ
  unfold ge_L at h
  exact ⟨⟨V, p_ok_P (fun q q1 q2 => h q (by omega)) a1⟩, i_tape_P (h 58 (by omega)) (h 59 (by omega)) a2, i_wait_P (h 62 (by omega)) (h 63 (by omega)) a3, fun s hs => i_sh_P hs (fun q hq => h q (by omega)) (a4 s hs), i_er_P (h 75 (by omega)) (h 81 (by omega)) a5, i_tr_P (fun q hq => h q (by omega)) hf.2.2 a6, i_im_P (fun q hq => h q (by omega)) hf.1 hf.2.1 a7, hx⟩
/-- one error more, on both sides -/
theorem i_J_E {k : Nat} (hk : 1 ≤ k) (hk2 : k ≤ 5) (h : ∀ q, ge_L q → q ≠ 75 → q ≠ 81 → g2 q = g q) (h75 : g2 75 = upd (g 75) k (g 75 k + 1)) (h81 : g2 81 = upd (g 81) k (g 81 k + 1)) (hf : f1 4 = f 4 ∧ f1 5 = f 5 ∧ f1 22 = f 22) (hx : x1 18 = -1) (hJ : i_J n g r x f) : i_J (n + 1) g2 r x1 f1 := by
  obtain ⟨⟨V, a1⟩, a2, a3, a4, a5, a6, a7, a8⟩ := hJ
  unfold ge_L at h
  refine ⟨⟨V, p_ok_P (fun q q1 q2 => h q (by omega) (by omega) (by omega)) a1⟩, i_tape_P (h 58 (by omega) (by omega) (by omega)) (h 59 (by omega) (by omega) (by omega)) a2, i_wait_P (h 62 (by omega) (by omega) (by omega)) (h 63 (by omega) (by omega) (by omega)) a3, fun s hs => i_sh_P hs (fun q hq => h q (by omega) (by omega) (by omega)) (a4 s hs), ?_, i_tr_P (fun q hq => h q (by omega) (by omega) (by omega)) hf.2.2 a6, i_im_P (fun q hq => h q (by omega) (by omega) (by omega)) hf.1 hf.2.1 a7, hx⟩
  intro j j1 j2
  rw [h75, h81]
  by_cases e : j = k
  · subst e; rw [pk_us, pk_us, a5 j j1 j2]
  · rw [pk_un e, pk_un e, a5 j j1 j2]
/-- another row -/
theorem i_J_R (hok : ∃ V, p_ok g 10000 V r1) (h4 : r1 4 = r 4) (h5 : r1 5 = r 5) (hh : ∀ i, 74 ≤ i → i < 144 → r1 i = r i) (hJ : i_J n g r x f) : i_J n g r1 x f := by
  obtain ⟨-, ⟨N, b1, b2, b3, b4⟩, ⟨M, c1, c2, c3, c4⟩, a4, a5, a6, a7, a8⟩ := hJ
  exact ⟨hok, ⟨N, b1, by rw [h4]; exact b2, b3, fun k hk => by rw [b4 k hk, hh _ (by omega) (by omega)]⟩, ⟨M, c1, by rw [h5]; exact c2, c3, fun k hk => by rw [c4 k hk, hh _ (by omega) (by omega)]⟩, a4, a5, a6, a7, a8⟩
theorem ge_I_1 (h : ge_I n g) : ge_I (n + 1) g := by
  obtain ⟨g0, x, hb, h1, h2⟩ := h
  exact ⟨g0, x, hb, h1, i_J_P (fun _ _ => rfl) ⟨rfl, rfl, rfl⟩ h2.2.2.2.2.2.2.2 h2⟩
theorem ge_ag_rf (g : ge_G) : ge_ag ge_SH g g := fun _ _ _ _ _ => rfl
/-- what a call of the law needs of both -/
def st_is (X : ge_X) (n : Nat) (G : ge_G) (y1 y2 : ge_Y) (a1 a2 : List Value) : Prop := ∃ d1 d2 v g1 g2, d1 ≤ 1500 ∧ d2 ≤ 1500 ∧ ge_N X ge_SH y1 d1 a1 G (some (.int v)) g1 ∧ ge_N X ge_SH y2 d2 a2 g1 (some (.int v)) g2 ∧ ge_I (n + 1) g2
variable {y1 y2 : ge_Y} {d1 d2 : Nat} {a1 a2 : List Value} {v v2 : Int32} {G G2 : ge_G}
theorem st_go (hG : ge_ag ge_SH G (ge_k g 25 r x hb)) (hc : ge_N X ge_SH y1 d1 a1 (ge_k g 25 r x hb) (some (.int v)) (ge_k g1 25 r1 x1 hb1)) (e7 : g1 77 = r) (e6 : g1 76 = f)
    (hv : v2 = v) (hm : ge_N X ge_SH y2 d2 a2 (ge_m (ge_k g1 25 r1 x1 hb1) r f) (some (.int v2)) (ge_m G2 r1 f1)) (hw : ∀ q, 25 ≤ q → q ≤ 34 → G2 q = ge_k g1 25 r1 x1 hb1 q)
    (hJ : i_J (n + 1) (ge_m G2 r1 f1) r1 x1 f1) (hd1 : d1 ≤ 1500) (hd2 : d2 ≤ 1500) : st_is X n G y1 y2 a1 a2 := by
  subst hv
  have e : ge_m (ge_k g1 25 r1 x1 hb1) r f = ge_k g1 25 r1 x1 hb1 := by
    have h7 : ge_k g1 25 r1 x1 hb1 77 = r := by rw [ge_k_o _ _ _ _ _ (by decide)]; exact e7
    have h6 : ge_k g1 25 r1 x1 hb1 76 = f := by rw [ge_k_o _ _ _ _ _ (by decide)]; exact e6
    have := ge_m_self (ge_k g1 25 r1 x1 hb1)
    rw [h7, h6] at this
    exact this
  rw [e] at hm
  refine ⟨d1, d2, v2, _, _, hd1, hd2, ge_NQag hG hc, hm, ge_m G2 r1 f1, x1, hb1, ?_, hJ⟩
  have e2 : ge_k (ge_m G2 r1 f1) 25 (ge_m G2 r1 f1 77) x1 hb1 = ge_m G2 r1 f1 := by
    have e77 : ge_m G2 r1 f1 77 = r1 := rfl
    rw [e77]
    funext q
    by_cases h : 25 ≤ q ∧ q ≤ 34
    · rw [ge_k_in (g1 := ge_m G2 r1 f1) (g2 := g1) (by omega), ge_m_o G2 r1 f1 (q := q) (by omega) (by omega), hw q h.1 h.2]
    · rw [ge_k_o _ _ _ _ _ (by omega)]
  rw [e2]
  exact ge_ag_rf _
/-- nothing changes that counts -/
theorem st_ro (hG : ge_ag ge_SH G (ge_k g 25 r x hb)) (hJ : i_J n g r x f) (hc : ge_N X ge_SH y1 d1 a1 (ge_k g 25 r x hb) (some (.int v)) (ge_k g1 25 r x1 hb1)) (hL1 : ∀ q, ge_L q ∨ q = 76 ∨ q = 77 → g1 q = g q) (e7 : g 77 = r) (e6 : g 76 = f)
    (hv : v2 = v) (hm : ge_N X ge_SH y2 d2 a2 (ge_m (ge_k g1 25 r x1 hb1) r f) (some (.int v2)) (ge_m G2 r f1)) (hL2 : ∀ q, ge_L q ∨ (25 ≤ q ∧ q ≤ 34) → G2 q = ge_k g1 25 r x1 hb1 q) (hf : f1 4 = f 4 ∧ f1 5 = f 5 ∧ f1 22 = f 22) (hx : x1 18 = -1) (hd1 : d1 ≤ 1500) (hd2 : d2 ≤ 1500) : st_is X n G y1 y2 a1 a2 := by
  refine st_go hG hc ((hL1 77 (by simp)).trans e7) ((hL1 76 (by simp)).trans e6) hv hm (fun q q1 q2 => hL2 q (Or.inr ⟨q1, q2⟩)) (i_J_P (fun q hq => ?_) hf hx hJ) hd1 hd2
  have hq2 := hq
  unfold ge_L at hq2
  rw [ge_m_o _ _ _ (by omega) (by omega), hL2 q (Or.inl hq), ge_k_o _ _ _ _ _ (by omega), hL1 q (Or.inl hq)]
/-- both find an error -/
theorem st_er {k : Nat} (hk : 1 ≤ k) (hk2 : k ≤ 5) (hG : ge_ag ge_SH G (ge_k g 25 r x hb)) (hJ : i_J n g r x f) (hc : ge_N X ge_SH y1 d1 a1 (ge_k g 25 r x hb) (some (.int v)) (ge_k g1 25 r x1 hb1)) (hL1 : ∀ q, (ge_L q ∨ q = 76 ∨ q = 77) → q ≠ 75 → g1 q = g q) (h75 : g1 75 = upd (g 75) k (g 75 k + 1)) (e7 : g 77 = r) (e6 : g 76 = f)
    (hv : v2 = v) (hm : ge_N X ge_SH y2 d2 a2 (ge_m (ge_k g1 25 r x1 hb1) r f) (some (.int v2)) (ge_m G2 r f1)) (hL2 : ∀ q, (ge_L q ∨ (25 ≤ q ∧ q ≤ 34)) → q ≠ 81 → G2 q = ge_k g1 25 r x1 hb1 q) (h81 : G2 81 = upd (g1 81) k (g1 81 k + 1)) (hf : f1 4 = f 4 ∧ f1 5 = f 5 ∧ f1 22 = f 22) (hx : x1 18 = -1) (hd1 : d1 ≤ 1500) (hd2 : d2 ≤ 1500) : st_is X n G y1 y2 a1 a2 := by
  refine st_go hG hc ((hL1 77 (by simp) (by decide)).trans e7) ((hL1 76 (by simp) (by decide)).trans e6) hv hm (fun q q1 q2 => hL2 q (Or.inr ⟨q1, q2⟩) (by omega)) (i_J_E hk hk2 (fun q hq n1 n2 => ?_) ?_ ?_ hf hx hJ) hd1 hd2
  · have hq2 := hq
    unfold ge_L at hq2
    rw [ge_m_o _ _ _ (by omega) (by omega), hL2 q (Or.inl hq) n2, ge_k_o _ _ _ _ _ (by omega), hL1 q (Or.inl hq) n1]
  · rw [ge_m_o _ _ _ (by decide) (by decide), hL2 75 (Or.inl (by unfold ge_L; omega)) (by decide), ge_k_o _ _ _ _ _ (by decide), h75]
  · rw [ge_m_o _ _ _ (by decide) (by decide), h81, hL1 81 (Or.inl (by unfold ge_L; omega)) (by decide)]
/-- the plain error: nothing but the count -/
theorem st_e0 {k : Nat} (hk : 1 ≤ k) (hk2 : k ≤ 5) (hG : ge_ag ge_SH G (ge_k g 25 r x hb)) (hJ : i_J n g r x f) (e7 : g 77 = r) (e6 : g 76 = f)
    (hc : ge_N X ge_SH y1 d1 a1 (ge_k g 25 r x hb) (some (.int v)) (ge_k (ge_up g 75 k (g 75 k + 1)) 25 r x hb)) (hv : v2 = v)
    (hm : ge_N X ge_SH y2 d2 a2 (ge_m (ge_k (ge_up g 75 k (g 75 k + 1)) 25 r x hb) r f) (some (.int v2)) (ge_m (ge_up (ge_k (ge_up g 75 k (g 75 k + 1)) 25 r x hb) 81 k (ge_k (ge_up g 75 k (g 75 k + 1)) 25 r x hb 81 k + 1)) r f)) (hd1 : d1 ≤ 1500) (hd2 : d2 ≤ 1500) : st_is X n G y1 y2 a1 a2 := by
  refine st_er hk hk2 hG hJ hc (fun q hq n1 => ge_up_row _ _ _ n1) ?_ e7 e6 hv hm (fun q hq n2 => ge_up_row _ _ _ n2) ?_ ⟨rfl, rfl, rfl⟩ hJ.2.2.2.2.2.2.2 hd1 hd2
  · unfold ge_up; rw [ge_row_self]
  · show ge_row _ 81 _ 81 = _
    rw [ge_row_self, ge_k_o _ _ _ _ _ (by decide)]
/-- nothing at all -/
theorem st_r0 (hG : ge_ag ge_SH G (ge_k g 25 r x hb)) (hJ : i_J n g r x f) (e7 : g 77 = r) (e6 : g 76 = f) (hc : ge_N X ge_SH y1 d1 a1 (ge_k g 25 r x hb) (some (.int v)) (ge_k g 25 r x hb)) (hv : v2 = v)
    (hm : ge_N X ge_SH y2 d2 a2 (ge_m (ge_k g 25 r x hb) r f) (some (.int v2)) (ge_m (ge_k g 25 r x hb) r f)) (hd1 : d1 ≤ 1500) (hd2 : d2 ≤ 1500) : st_is X n G y1 y2 a1 a2 :=
  st_ro hG hJ hc (fun _ _ => rfl) e7 e6 hv hm (fun _ _ => rfl) ⟨rfl, rfl, rfl⟩ hJ.2.2.2.2.2.2.2 hd1 hd2
/-- the rows change alike -/
theorem st_rw (hG : ge_ag ge_SH G (ge_k g 25 r x hb)) (hJ : i_J n g r x f) (e7 : g 77 = r) (e6 : g 76 = f) (hc : ge_N X ge_SH y1 d1 a1 (ge_k g 25 r x hb) (some (.int v)) (ge_k g 25 r1 x1 hb1)) (hv : v2 = v) {r2 : Nat → Int32} (hr : r2 = r1)
    (hm : ge_N X ge_SH y2 d2 a2 (ge_m (ge_k g 25 r1 x1 hb1) r f) (some (.int v2)) (ge_m (ge_k g 25 r1 x1 hb1) r2 f1)) (hok : ∃ V, p_ok g 10000 V r1) (h4 : r1 4 = r 4) (h5 : r1 5 = r 5) (hh : ∀ i, 74 ≤ i → i < 144 → r1 i = r i) (hf : f1 4 = f 4 ∧ f1 5 = f 5 ∧ f1 22 = f 22) (hx : x1 18 = -1) (hd1 : d1 ≤ 1500) (hd2 : d2 ≤ 1500) : st_is X n G y1 y2 a1 a2 := by
  subst hr
  refine st_go hG hc e7 e6 hv hm (fun _ _ _ => rfl) (i_J_P (fun q hq => ?_) hf hx (i_J_R hok h4 h5 hh hJ)) hd1 hd2
  unfold ge_L at hq
  rw [ge_m_o _ _ _ (by omega) (by omega), ge_k_o _ _ _ _ _ (by omega)]
end I1
