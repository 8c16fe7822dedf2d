/-! a text into code, as the class does it: (went well, where, the code) -/
abbrev q_R : Type := Bool × Nat × List Int32
def q_op (b : Bool) (s : Int32) : List Int32 := if b = true then [-s] else []
def q_lp (b : Nat → Int32) (sub : Nat → q_R) (isop : Int32 → Bool) : Nat → q_R → q_R
  | 0, x => x
  | F + 1, x => if x.1 = true ∧ isop (b x.2.1) = true then q_lp b sub isop F ((sub (x.2.1 + 1)).1, (sub (x.2.1 + 1)).2.1, x.2.2 ++ ((sub (x.2.1 + 1)).2.2 ++ q_op (sub (x.2.1 + 1)).1 (b x.2.1))) else x
def q_pro (b : Nat → Int32) (sub : Nat → q_R) (a : Nat) : q_R := q_lp b sub e_mulop 51 (sub a)
def q_sum (b : Nat → Int32) (sub : Nat → q_R) (a : Nat) : q_R := q_lp b (q_pro b sub) e_addop 51 (q_pro b sub a)
def q_cmp2 (b : Nat → Int32) (sub : Nat → q_R) (s : q_R) : q_R :=
  if s.1 = true ∧ (b s.2.1 = 60 ∨ b s.2.1 = 61 ∨ b s.2.1 = 62) then ((sub (s.2.1 + 1)).1, (sub (s.2.1 + 1)).2.1, s.2.2 ++ ((sub (s.2.1 + 1)).2.2 ++ q_op (sub (s.2.1 + 1)).1 (b s.2.1))) else s
def q_cmp (b : Nat → Int32) (sub : Nat → q_R) (a : Nat) : q_R := q_cmp2 b (q_sum b sub) (q_sum b sub a)
def q_and (b : Nat → Int32) (sub : Nat → q_R) (a : Nat) : q_R := q_lp b (q_cmp b sub) e_andop 51 (q_cmp b sub a)
def q_who (b : Nat → Int32) (sub : Nat → q_R) (a : Nat) : q_R := q_lp b (q_and b sub) e_orop 51 (q_and b sub a)
def q_nmr (o : Option Int32) (a : Nat) : q_R := match o with
  | some v => (true, a + 1, [v])
  | none => (false, a, [])
def q_leaf (b : Nat → Int32) (nm : Int32 → Option Int32) (a : Nat) : q_R := q_nmr (nm (b a)) a
def q_close (b : Nat → Int32) (s : q_R) : q_R := if s.1 = true ∧ b s.2.1 = 41 then (true, s.2.1 + 1, s.2.2) else (false, s.2.1, s.2.2)
def q_num (b : Nat → Int32) (a : Nat) : q_R := (true, (e_num b 4 a 0).1, [(e_num b 4 a 0).2])
def q_not (x : q_R) : q_R := (x.1, x.2.1, x.2.2 ++ q_op x.1 33)
def q_fac (b : Nat → Int32) (nm : Int32 → Option Int32) : Nat → Nat → q_R
  | 0, a => if p_in (b a) 48 57 = 0 then (if b a = 33 ∨ b a = 40 then (false, a, []) else q_leaf b nm a) else q_num b a
  | k + 1, a => if p_in (b a) 48 57 = 0 then
      (if b a = 33 then q_not (q_fac b nm k (a + 1)) else if b a = 40 then q_close b (q_who b (fun x => q_fac b nm k x) (a + 1)) else q_leaf b nm a) else q_num b a
theorem c_run_c (A B C s : Int32) (L k : List Int32) : c_run A B C (s :: L) k = match c_st A B C s k with | some k' => c_run A B C L k' | none => none := rfl
theorem c_run_app (A B C : Int32) : ∀ (L M k : List Int32), c_run A B C (L ++ M) k = (c_run A B C L k).bind (fun t => c_run A B C M t) := by
  intro L
  induction L with
  | nil => intro M k; rfl
  | cons s L ih =>
    intro M k
    show c_run A B C (s :: (L ++ M)) k = _
    rw [c_run_c, c_run_c]
    cases c_st A B C s k with
    | none => rfl
    | some t => exact ih M t
/-- the code is worth what the walk is -/
def q_is (A B C : Int32) (a : Nat) (x : p_R) (y : q_R) : Prop :=
  x.1 = y.1 ∧ x.2.1 = y.2.1 ∧ y.2.2.length + a ≤ y.2.1 ∧ (∀ s ∈ y.2.2, c_ok s) ∧ (y.1 = true → ∀ k, c_run A B C y.2.2 k = some (x.2.2 :: k))
section QP
variable {A B C : Int32} {b : Nat → Int32} {sub : Nat → p_R} {sq : Nat → q_R}
theorem q_bin {isop : Int32 → Bool} {opf : Int32 → Int32 → Int32 → Int32} (ho : ∀ c, isop c = true → c_isop c ∧ ∀ v w, opf c v w = c_op c v w) {a : Nat} {x : p_R} {y : q_R} (hi : q_is A B C a x y) (h1 : y.1 = true) (h2 : isop (b y.2.1) = true) (hs : q_is A B C (y.2.1 + 1) (sub (y.2.1 + 1)) (sq (y.2.1 + 1))) :
    q_is A B C a ((sub (x.2.1 + 1)).1, (sub (x.2.1 + 1)).2.1, opf (b x.2.1) x.2.2 (sub (x.2.1 + 1)).2.2) ((sq (y.2.1 + 1)).1, (sq (y.2.1 + 1)).2.1, y.2.2 ++ ((sq (y.2.1 + 1)).2.2 ++ q_op (sq (y.2.1 + 1)).1 (b y.2.1))) := by
  obtain ⟨i1, i2, i3, i4, i5⟩ := hi
  obtain ⟨s1, s2, s3, s4, s5⟩ := hs
  obtain ⟨o1, o2⟩ := ho _ h2
  have hc : c_ok (-(b y.2.1)) ∧ ∀ v w k, c_st A B C (-(b y.2.1)) (w :: v :: k) = some (c_op (b y.2.1) v w :: k) := by
    generalize b y.2.1 = c at o1
    rcases o1 with rfl | rfl | rfl | rfl | rfl | rfl | rfl | rfl | rfl | rfl
    all_goals exact ⟨Or.inr (Or.inr (by unfold c_isop; decide)), fun v w k => rfl⟩
  refine ⟨by rw [i2]; exact s1, by rw [i2]; exact s2, ?_, ?_, ?_⟩
  · show (y.2.2 ++ ((sq (y.2.1 + 1)).2.2 ++ q_op (sq (y.2.1 + 1)).1 (b y.2.1))).length + a ≤ (sq (y.2.1 + 1)).2.1
    rw [List.length_append, List.length_append]
    have : (q_op (sq (y.2.1 + 1)).1 (b y.2.1)).length ≤ 1 := by unfold q_op; split <;> simp
    omega
  · intro s hs
    rcases List.mem_append.mp hs with z | z
    · exact i4 s z
    · rcases List.mem_append.mp z with z | z
      · exact s4 s z
      · unfold q_op at z
        split at z
        · rcases List.mem_singleton.mp z with rfl; exact hc.1
        · cases z
  · intro hg k
    have hg : (sq (y.2.1 + 1)).1 = true := hg
    show c_run A B C (y.2.2 ++ ((sq (y.2.1 + 1)).2.2 ++ q_op (sq (y.2.1 + 1)).1 (b y.2.1))) k = some (opf (b x.2.1) x.2.2 (sub (x.2.1 + 1)).2.2 :: k)
    rw [c_run_app, i5 h1 k]
    show c_run A B C ((sq (y.2.1 + 1)).2.2 ++ q_op (sq (y.2.1 + 1)).1 (b y.2.1)) (x.2.2 :: k) = _
    rw [c_run_app, s5 hg]
    show c_run A B C (q_op (sq (y.2.1 + 1)).1 (b y.2.1)) ((sub (y.2.1 + 1)).2.2 :: x.2.2 :: k) = _
    unfold q_op
    rw [if_pos hg, i2, o2]
    unfold c_run
    rw [hc.2]
    rfl
theorem q_lp_is {isop : Int32 → Bool} {opf : Int32 → Int32 → Int32 → Int32} (ho : ∀ c, isop c = true → c_isop c ∧ ∀ v w, opf c v w = c_op c v w) (hs : ∀ a, q_is A B C a (sub a) (sq a)) {a : Nat} : ∀ (F : Nat) (x : p_R) (y : q_R), q_is A B C a x y → q_is A B C a (e_lp b sub isop opf F x) (q_lp b sq isop F y) := by
  intro F
  induction F with
  | zero => intro x y h; exact h
  | succ F ih =>
    intro x y h
    unfold e_lp q_lp
    by_cases hc : y.1 = true ∧ isop (b y.2.1) = true
    · rw [if_pos hc, if_pos (by rw [h.1, h.2.1]; exact hc)]
      exact ih _ _ (q_bin ho h hc.1 hc.2 (hs _))
    · rw [if_neg hc, if_neg (by rw [h.1, h.2.1]; exact hc)]
      exact h
theorem q_mulop (c : Int32) (h : e_mulop c = true) : c_isop c ∧ ∀ v w, e_mulf c v w = c_op c v w := by
  unfold e_mulop at h
  simp only [Bool.or_eq_true, beq_iff_eq] at h
  rcases h with (rfl | rfl) | rfl
  all_goals exact ⟨by unfold c_isop; simp, fun v w => rfl⟩
theorem q_addop (c : Int32) (h : e_addop c = true) : c_isop c ∧ ∀ v w, e_addf c v w = c_op c v w := by
  unfold e_addop at h
  simp only [Bool.or_eq_true, beq_iff_eq] at h
  rcases h with rfl | rfl
  all_goals exact ⟨by unfold c_isop; simp, fun v w => rfl⟩
theorem q_andop (c : Int32) (h : e_andop c = true) : c_isop c ∧ ∀ v w, e_andf c v w = c_op c v w := by
  unfold e_andop at h
  simp only [beq_iff_eq] at h
  subst h
  exact ⟨by unfold c_isop; simp, fun v w => rfl⟩
theorem q_orop (c : Int32) (h : e_orop c = true) : c_isop c ∧ ∀ v w, e_orf c v w = c_op c v w := by
  unfold e_orop at h
  simp only [beq_iff_eq] at h
  subst h
  exact ⟨by unfold c_isop; simp, fun v w => rfl⟩
def q_cmpop (c : Int32) : Bool := c == 60 || c == 61 || c == 62
theorem q_cmpop_y {c : Int32} : q_cmpop c = true ↔ c = 60 ∨ c = 61 ∨ c = 62 := by unfold q_cmpop; simp only [Bool.or_eq_true, beq_iff_eq, or_assoc]
theorem q_cmpop_o (c : Int32) (h : q_cmpop c = true) : c_isop c ∧ ∀ v w, e_cmpf c v w = c_op c v w := by
  rcases q_cmpop_y.mp h with rfl | rfl | rfl
  all_goals exact ⟨by unfold c_isop; simp, fun v w => by unfold c_op; rw [if_neg (by decide), if_neg (by decide), if_pos (by decide)]⟩
theorem q_pro_is (hs : ∀ a, q_is A B C a (sub a) (sq a)) (a : Nat) : q_is A B C a (e_pro b sub a) (q_pro b sq a) := q_lp_is q_mulop hs 51 _ _ (hs a)
theorem q_sum_is (hs : ∀ a, q_is A B C a (sub a) (sq a)) (a : Nat) : q_is A B C a (e_sum b sub a) (q_sum b sq a) := q_lp_is q_addop (q_pro_is hs) 51 _ _ (q_pro_is hs a)
theorem q_cmp_is (hs : ∀ a, q_is A B C a (sub a) (sq a)) (a : Nat) : q_is A B C a (e_cmp b sub a) (q_cmp b sq a) := by
  have h := q_sum_is (b := b) hs a
  unfold e_cmp q_cmp e_cmp2 q_cmp2
  generalize e_sum b sub a = x at h
  generalize q_sum b sq a = y at h
  have e : e_cmpc b x = if y.1 = true then b y.2.1 else -1 := by unfold e_cmpc; rw [h.1, h.2.1]
  by_cases hc : y.1 = true ∧ (b y.2.1 = 60 ∨ b y.2.1 = 61 ∨ b y.2.1 = 62)
  · have e2 : e_cmpc b x = b x.2.1 := by rw [e, if_pos hc.1, h.2.1]
    rw [if_pos hc, if_pos (by rw [e, if_pos hc.1]; exact hc.2), e2]
    exact q_bin q_cmpop_o h hc.1 (q_cmpop_y.mpr hc.2) (q_sum_is hs _)
  · rw [if_neg hc, if_neg (fun z => hc (by
      by_cases hy : y.1 = true
      · rw [e, if_pos hy] at z; exact ⟨hy, z⟩
      · rw [e, if_neg hy] at z; exact absurd z (by decide)))]
    exact h
theorem q_and_is (hs : ∀ a, q_is A B C a (sub a) (sq a)) (a : Nat) : q_is A B C a (e_and b sub a) (q_and b sq a) := q_lp_is q_andop (q_cmp_is hs) 51 _ _ (q_cmp_is hs a)
theorem q_who_is (hs : ∀ a, q_is A B C a (sub a) (sq a)) (a : Nat) : q_is A B C a (e_who b sub a) (q_who b sq a) := q_lp_is q_orop (q_and_is hs) 51 _ _ (q_and_is hs a)
theorem p_dig {c : Int32} (h : ¬ p_in c 48 57 = 0) : ∃ d, d ≤ 9 ∧ c = nI (48 + d) := by
  unfold p_in at h
  by_cases h1 : 48 ≤ c
  · by_cases h2 : c ≤ 57
    · obtain ⟨j, hj, rfl⟩ := nI_of (x := c) (fun z => absurd (Int32.lt_of_lt_of_le z (show (0 : Int32) ≤ 48 by decide)) (by simpa [Int32.not_lt] using h1))
      have a1 := (nI_leI (a := 48) (by decide) hj).mp h1
      have a2 := (nI_leI (b := 57) hj (by decide)).mp h2
      exact ⟨j - 48, by omega, by rw [show 48 + (j - 48) = j by omega]⟩
    · simp [h1, h2] at h
  · simp [h1] at h
theorem e_num_in : ∀ (F a m : Nat) (v : Int32), v = nI m → m < 10 ^ (4 - F) → F ≤ 4 → a ≤ (e_num b F a v).1 ∧ ∃ j, j < 10000 ∧ (e_num b F a v).2 = nI j := by
  intro F
  induction F with
  | zero => intro a m v hv hm _; exact ⟨Nat.le_refl _, m, hm, hv⟩
  | succ F ih =>
    intro a m v hv hm hF
    have hp : 10 ^ (4 - F) = 10 * 10 ^ (4 - (F + 1)) := by rw [show 4 - F = (4 - (F + 1)) + 1 by omega, Nat.pow_succ]; omega
    have hp2 : 10 ^ (4 - F) ≤ 10 ^ 4 := Nat.pow_le_pow_right (by decide) (by omega)
    unfold e_num
    by_cases h : p_in (b a) 48 57 = 0
    · rw [if_pos h]; exact ⟨Nat.le_refl _, m, by omega, hv⟩
    · rw [if_neg h]
      obtain ⟨d, hd, ed⟩ := p_dig h
      have := ih (a + 1) (10 * m + d) (10 * v + b a - 48) (by rw [hv, ed, show (10 : Int32) * nI m = nI (10 * m) from pk_mul 10 m, nI_add, show nI (10 * m + (48 + d)) - 48 = nI (10 * m + (48 + d) - 48) from pk_sub (b := 48) (by omega), show 10 * m + (48 + d) - 48 = 10 * m + d by omega]) (by omega) (by omega)
      exact ⟨by omega, this.2⟩
theorem q_num_is {a : Nat} (h : ¬ p_in (b a) 48 57 = 0) : q_is A B C a (true, e_num b 4 a 0) (q_num b a) := by
  have h1 : e_num b 4 a 0 = e_num b 3 (a + 1) (10 * 0 + b a - 48) := if_neg h
  obtain ⟨d, hd, ed⟩ := p_dig h
  have h2 := e_num_in (b := b) 3 (a + 1) d (10 * 0 + b a - 48) (by rw [ed, show (10 : Int32) * 0 = nI 0 from rfl, nI_add, show nI (0 + (48 + d)) - 48 = nI (0 + (48 + d) - 48) from pk_sub (b := 48) (by omega), show 0 + (48 + d) - 48 = d by omega]) (by omega) (by omega)
  rw [← h1] at h2
  obtain ⟨h3, j, hj, ej⟩ := h2
  have hk : -3 ≤ nI j ∧ 0 ≤ nI j := ⟨Int32.le_trans (show (-3 : Int32) ≤ 0 by decide) ((nI_leI (a := 0) (by decide) (by omega)).mpr (by omega)), (nI_leI (a := 0) (by decide) (by omega)).mpr (by omega)⟩
  refine ⟨rfl, rfl, ?_, ?_, ?_⟩
  · show 1 + a ≤ (e_num b 4 a 0).1; omega
  · intro s hs
    have hs : s = (e_num b 4 a 0).2 := List.mem_singleton.mp hs
    rw [hs, ej]
    exact Or.inl hk.1
  · intro _ k
    show c_run A B C [(e_num b 4 a 0).2] k = some ((e_num b 4 a 0).2 :: k)
    rw [ej]
    unfold c_run c_st
    rw [if_pos hk.1]
    show some (c_val A B C (nI j) :: k) = _
    unfold c_val
    rw [if_neg (Int32.not_lt.mpr hk.2)]
theorem q_leaf_is {u a : Nat} : q_is A B C a (e_leaf b (e_nm u A B C) a) (q_leaf b (e_nm u (-1) (-2) (-3)) a) := by
  unfold e_leaf q_leaf e_nm
  generalize b a = c
  by_cases h1 : c = if u = 0 then 98 else 108
  · simp only [if_pos h1]
    exact ⟨rfl, rfl, by show 1 + a ≤ a + 1; omega, fun s hs => by rcases List.mem_singleton.mp hs with rfl; exact Or.inl (by decide), fun _ k => rfl⟩
  · simp only [if_neg h1]
    by_cases h2 : c = if u = 0 then 104 else 114
    · simp only [if_pos h2]
      exact ⟨rfl, rfl, by show 1 + a ≤ a + 1; omega, fun s hs => by rcases List.mem_singleton.mp hs with rfl; exact Or.inl (by decide), fun _ k => rfl⟩
    · simp only [if_neg h2]
      by_cases h3 : c = if u = 0 then 109 else 104
      · simp only [if_pos h3]
        exact ⟨rfl, rfl, by show 1 + a ≤ a + 1; omega, fun s hs => by rcases List.mem_singleton.mp hs with rfl; exact Or.inl (by decide), fun _ k => rfl⟩
      · simp only [if_neg h3]
        exact ⟨rfl, rfl, by show 0 + a ≤ a; omega, fun s hs => (by cases hs), fun z => Bool.noConfusion z⟩
theorem q_fac_is {u : Nat} : ∀ k a, q_is A B C a (e_fac b (e_nm u A B C) k a) (q_fac b (e_nm u (-1) (-2) (-3)) k a) := by
  intro k
  induction k with
  | zero =>
    intro a
    unfold e_fac q_fac
    by_cases h : p_in (b a) 48 57 = 0
    · rw [if_pos h, if_pos h]
      by_cases h2 : b a = 33 ∨ b a = 40
      · rw [if_pos h2, if_pos h2]
        exact ⟨rfl, rfl, by show 0 + a ≤ a; omega, fun s hs => (by cases hs), fun z => Bool.noConfusion z⟩
      · rw [if_neg h2, if_neg h2]; exact q_leaf_is
    · rw [if_neg h, if_neg h]; exact q_num_is h
  | succ k ih =>
    intro a
    unfold e_fac q_fac
    by_cases h : p_in (b a) 48 57 = 0
    · rw [if_pos h, if_pos h]
      by_cases h2 : b a = 33
      · rw [if_pos h2, if_pos h2]
        obtain ⟨i1, i2, i3, i4, i5⟩ := ih (a + 1)
        refine ⟨i1, i2, ?_, ?_, ?_⟩
        · show ((q_fac b (e_nm u (-1) (-2) (-3)) k (a + 1)).2.2 ++ q_op (q_fac b (e_nm u (-1) (-2) (-3)) k (a + 1)).1 33).length + a ≤ (q_fac b (e_nm u (-1) (-2) (-3)) k (a + 1)).2.1
          rw [List.length_append]
          have : (q_op (q_fac b (e_nm u (-1) (-2) (-3)) k (a + 1)).1 33).length ≤ 1 := by unfold q_op; split <;> simp
          omega
        · intro s hs
          rcases List.mem_append.mp hs with z | z
          · exact i4 s z
          · unfold q_op at z
            split at z
            · rcases List.mem_singleton.mp z with rfl; exact Or.inr (Or.inl (by decide))
            · cases z
        · intro hg kk
          have hg : (q_fac b (e_nm u (-1) (-2) (-3)) k (a + 1)).1 = true := hg
          show c_run A B C ((q_fac b (e_nm u (-1) (-2) (-3)) k (a + 1)).2.2 ++ q_op (q_fac b (e_nm u (-1) (-2) (-3)) k (a + 1)).1 33) kk = _
          rw [c_run_app, i5 hg kk]
          show c_run A B C (q_op (q_fac b (e_nm u (-1) (-2) (-3)) k (a + 1)).1 33) _ = _
          unfold q_op
          rw [if_pos hg]
          rfl
      · rw [if_neg h2, if_neg h2]
        by_cases h3 : b a = 40
        · rw [if_pos h3, if_pos h3]
          have hw := q_who_is (b := b) ih (a + 1)
          unfold e_close q_close
          generalize e_who b (fun x => e_fac b (e_nm u A B C) k x) (a + 1) = x at hw
          generalize q_who b (fun x => q_fac b (e_nm u (-1) (-2) (-3)) k x) (a + 1) = y at hw
          obtain ⟨i1, i2, i3, i4, i5⟩ := hw
          by_cases h4 : y.1 = true ∧ b y.2.1 = 41
          · rw [if_pos h4, if_pos (by rw [i1, i2]; exact h4)]
            exact ⟨rfl, by rw [i2], by show y.2.2.length + a ≤ y.2.1 + 1; omega, i4, fun _ => i5 h4.1⟩
          · rw [if_neg h4, if_neg (by rw [i1, i2]; exact h4)]
            exact ⟨rfl, i2, by show y.2.2.length + a ≤ y.2.1; omega, i4, fun z => Bool.noConfusion z⟩
        · rw [if_neg h3, if_neg h3]; exact q_leaf_is
    · rw [if_neg h, if_neg h]; exact q_num_is h
end QP
