/-! what a text is worth, as the reference walks it: (went well, where, value) -/
def p_b (q : Bool) : Int32 := if q then 1 else 0
theorem p_b_0 {q : Bool} : p_b q = 0 ↔ q = false := by cases q <;> simp [p_b]
theorem p_b_n {q : Bool} : ¬ p_b q = 0 ↔ q = true := by cases q <;> simp [p_b]
theorem p_b_t : p_b true = 1 := rfl
theorem p_b_f : p_b false = 0 := rfl
def p_rem (x z : Int32) : Int32 := x - x / z * z
abbrev p_R : Type := Bool × Nat × Int32
def e_b (r : Nat → Int32) (u n k : Nat) : Int32 := if k < n then r (144 + 50 * u + k) else -1
def e_num (b : Nat → Int32) : Nat → Nat → Int32 → Nat × Int32
  | 0, a, v => (a, v)
  | F + 1, a, v => if p_in (b a) 48 57 = 0 then (a, v) else e_num b F (a + 1) (10 * v + b a - 48)
def e_nm (u : Nat) (A B C c : Int32) : Option Int32 := if c = (if u = 0 then 98 else 108) then some A else if c = (if u = 0 then 104 else 114) then some B else if c = (if u = 0 then 109 else 104) then some C else none
def e_lp (b : Nat → Int32) (sub : Nat → p_R) (isop : Int32 → Bool) (opf : Int32 → Int32 → Int32 → Int32) : Nat → p_R → p_R
  | 0, x => x
  | F + 1, x => if x.1 = true ∧ isop (b x.2.1) = true then e_lp b sub isop opf F ((sub (x.2.1 + 1)).1, (sub (x.2.1 + 1)).2.1, opf (b x.2.1) x.2.2 (sub (x.2.1 + 1)).2.2) else x
def e_mulop (c : Int32) : Bool := c == 42 || c == 47 || c == 37
def e_mulf (c v w : Int32) : Int32 := if c = 42 then v * w else if w = 0 then 0 else if c = 47 then v / w else p_rem v w
def e_addop (c : Int32) : Bool := c == 43 || c == 45
def e_addf (c v w : Int32) : Int32 := if c = 43 then v + w else v - w
def e_andop (c : Int32) : Bool := c == 38
def e_andf (_ v w : Int32) : Int32 := if v = 0 then 0 else if w = 0 then 0 else 1
def e_orop (c : Int32) : Bool := c == 124
def e_orf (_ v w : Int32) : Int32 := if v = 0 then (if w = 0 then 0 else 1) else 1
def e_cmpf (c v w : Int32) : Int32 := if c = 60 then (if v < w then 1 else 0) else if c = 61 then (if v = w then 1 else 0) else if w < v then 1 else 0
def e_pro (b : Nat → Int32) (sub : Nat → p_R) (a : Nat) : p_R := e_lp b sub e_mulop e_mulf 51 (sub a)
def e_sum (b : Nat → Int32) (sub : Nat → p_R) (a : Nat) : p_R := e_lp b (e_pro b sub) e_addop e_addf 51 (e_pro b sub a)
def e_cmpc (b : Nat → Int32) (s : p_R) : Int32 := if s.1 = true then b s.2.1 else -1
def e_cmp2 (b : Nat → Int32) (sub : Nat → p_R) (s : p_R) : p_R :=
  if e_cmpc b s = 60 ∨ e_cmpc b s = 61 ∨ e_cmpc b s = 62 then ((sub (s.2.1 + 1)).1, (sub (s.2.1 + 1)).2.1, e_cmpf (e_cmpc b s) s.2.2 (sub (s.2.1 + 1)).2.2) else s
def e_cmp (b : Nat → Int32) (sub : Nat → p_R) (a : Nat) : p_R := e_cmp2 b (e_sum b sub) (e_sum b sub a)
def e_and (b : Nat → Int32) (sub : Nat → p_R) (a : Nat) : p_R := e_lp b (e_cmp b sub) e_andop e_andf 51 (e_cmp b sub a)
def e_who (b : Nat → Int32) (sub : Nat → p_R) (a : Nat) : p_R := e_lp b (e_and b sub) e_orop e_orf 51 (e_and b sub a)
def e_leaf (b : Nat → Int32) (nm : Int32 → Option Int32) (a : Nat) : p_R := match nm (b a) with
  | some v => (true, a + 1, v)
  | none => (false, a, 0)
def e_close (b : Nat → Int32) (s : p_R) : p_R := if s.1 = true ∧ b s.2.1 = 41 then (true, s.2.1 + 1, s.2.2) else (false, s.2.1, 0)
def e_fac (b : Nat → Int32) (nm : Int32 → Option Int32) : Nat → Nat → p_R
  | 0, a => if p_in (b a) 48 57 = 0 then (if b a = 33 ∨ b a = 40 then (false, a, 0) else e_leaf b nm a) else (true, e_num b 4 a 0)
  | k + 1, a => if p_in (b a) 48 57 = 0 then
      (if b a = 33 then ((e_fac b nm k (a + 1)).1, (e_fac b nm k (a + 1)).2.1, if (e_fac b nm k (a + 1)).2.2 = 0 then 1 else 0)
       else if b a = 40 then e_close b (e_who b (fun x => e_fac b nm k x) (a + 1)) else e_leaf b nm a) else (true, e_num b 4 a 0)
/-- it goes on, and stays within the text -/
def e_ok (n : Nat) (sub : Nat → p_R) : Prop := ∀ a, a ≤ n → a ≤ (sub a).2.1 ∧ (sub a).2.1 ≤ n
theorem e_b_lt {r : Nat → Int32} {u n k : Nat} (h : ¬ e_b r u n k = -1) : k < n := by
  unfold e_b at h
  by_cases hk : k < n
  · exact hk
  · simp [hk] at h
theorem e_lp_ok {b : Nat → Int32} {sub : Nat → p_R} {isop : Int32 → Bool} {opf : Int32 → Int32 → Int32 → Int32} {n : Nat} (hb : ∀ k, isop (b k) = true → k < n) (hs : e_ok n sub) :
    ∀ (F : Nat) (x : p_R), x.2.1 ≤ n → x.2.1 ≤ (e_lp b sub isop opf F x).2.1 ∧ (e_lp b sub isop opf F x).2.1 ≤ n := by
  intro F
  induction F with
  | zero => intro x hx; exact ⟨Nat.le_refl _, hx⟩
  | succ F ih =>
    intro x hx
    unfold e_lp
    split
    · rename_i h
      have h1 := hb _ h.2
      have h2 := hs (x.2.1 + 1) (by omega)
      have h3 := ih ((sub (x.2.1 + 1)).1, (sub (x.2.1 + 1)).2.1, opf (b x.2.1) x.2.2 (sub (x.2.1 + 1)).2.2) h2.2
      exact ⟨by have := h3.1; simp only at this; omega, h3.2⟩
    · exact ⟨Nat.le_refl _, hx⟩
section E1
variable {r : Nat → Int32} {u n : Nat}
theorem e_op_lt {isop : Int32 → Bool} (h1 : isop (-1) = false) (k : Nat) (h : isop (e_b r u n k) = true) : k < n := by
  refine e_b_lt (r := r) (u := u) (fun q => ?_)
  rw [q, h1] at h
  cases h
theorem e_pro_ok {sub : Nat → p_R} (hs : e_ok n sub) : e_ok n (e_pro (e_b r u n) sub) := fun a ha => by
  have h := e_lp_ok (opf := e_mulf) (e_op_lt (r := r) (u := u) (n := n) (isop := e_mulop) (by decide)) hs 51 (sub a) (hs a ha).2
  exact ⟨Nat.le_trans (hs a ha).1 h.1, h.2⟩
theorem e_sum_ok {sub : Nat → p_R} (hs : e_ok n sub) : e_ok n (e_sum (e_b r u n) sub) := fun a ha => by
  have h := e_lp_ok (opf := e_addf) (e_op_lt (r := r) (u := u) (n := n) (isop := e_addop) (by decide)) (e_pro_ok (r := r) (u := u) hs) 51 _ (e_pro_ok (r := r) (u := u) hs a ha).2
  exact ⟨Nat.le_trans (e_pro_ok (r := r) (u := u) hs a ha).1 h.1, h.2⟩
theorem e_cmp_ok {sub : Nat → p_R} (hs : e_ok n sub) : e_ok n (e_cmp (e_b r u n) sub) := fun a ha => by
  have h := e_sum_ok (r := r) (u := u) hs a ha
  unfold e_cmp e_cmp2
  split
  · rename_i hc
    have hl : (e_sum (e_b r u n) sub a).2.1 < n := by
      refine e_b_lt (r := r) (u := u) (fun q => ?_)
      unfold e_cmpc at hc
      rw [q] at hc
      revert hc
      split <;> decide
    have h2 := e_sum_ok (r := r) (u := u) hs ((e_sum (e_b r u n) sub a).2.1 + 1) (by omega)
    exact ⟨by simp only; omega, h2.2⟩
  · exact h
theorem e_and_ok {sub : Nat → p_R} (hs : e_ok n sub) : e_ok n (e_and (e_b r u n) sub) := fun a ha => by
  have h := e_lp_ok (opf := e_andf) (e_op_lt (r := r) (u := u) (n := n) (isop := e_andop) (by decide)) (e_cmp_ok (r := r) (u := u) hs) 51 _ (e_cmp_ok (r := r) (u := u) hs a ha).2
  exact ⟨Nat.le_trans (e_cmp_ok (r := r) (u := u) hs a ha).1 h.1, h.2⟩
theorem e_who_ok {sub : Nat → p_R} (hs : e_ok n sub) : e_ok n (e_who (e_b r u n) sub) := fun a ha => by
  have h := e_lp_ok (opf := e_orf) (e_op_lt (r := r) (u := u) (n := n) (isop := e_orop) (by decide)) (e_and_ok (r := r) (u := u) hs) 51 _ (e_and_ok (r := r) (u := u) hs a ha).2
  exact ⟨Nat.le_trans (e_and_ok (r := r) (u := u) hs a ha).1 h.1, h.2⟩
theorem e_num_ok : ∀ (F a : Nat) (v : Int32), a ≤ n → a ≤ (e_num (e_b r u n) F a v).1 ∧ (e_num (e_b r u n) F a v).1 ≤ n := by
  intro F
  induction F with
  | zero => intro a v ha; exact ⟨Nat.le_refl _, ha⟩
  | succ F ih =>
    intro a v ha
    unfold e_num
    split
    · exact ⟨Nat.le_refl _, ha⟩
    · rename_i h
      have hl : a < n := e_b_lt (r := r) (u := u) (fun q => h (by rw [q]; decide))
      have := ih (a + 1) (10 * v + e_b r u n a - 48) (by omega)
      omega
theorem e_leaf_ok {nm : Int32 → Option Int32} (hm : nm (-1) = none) : e_ok n (e_leaf (e_b r u n) nm) := fun a ha => by
  unfold e_leaf
  split
  · rename_i v hv
    have hl : a < n := e_b_lt (r := r) (u := u) (fun q => by rw [q, hm] at hv; cases hv)
    exact ⟨by simp only; omega, by simp only; omega⟩
  · exact ⟨Nat.le_refl _, ha⟩
theorem e_fac_ok {nm : Int32 → Option Int32} (hm : nm (-1) = none) : ∀ k, e_ok n (e_fac (e_b r u n) nm k) := by
  intro k
  induction k with
  | zero =>
    intro a ha
    unfold e_fac
    split
    · split
      · exact ⟨Nat.le_refl _, ha⟩
      · exact e_leaf_ok hm a ha
    · exact e_num_ok 4 a 0 ha
  | succ k ih =>
    intro a ha
    unfold e_fac
    split
    · split
      · rename_i h
        have hl : a < n := e_b_lt (r := r) (u := u) (fun q => by rw [q] at h; revert h; decide)
        have := ih (a + 1) (by omega)
        exact ⟨by simp only; omega, this.2⟩
      · split
        · rename_i h
          have hl : a < n := e_b_lt (r := r) (u := u) (fun q => by rw [q] at h; revert h; decide)
          have h2 : a + 1 ≤ (e_who (e_b r u n) (fun x => e_fac (e_b r u n) nm k x) (a + 1)).2.1 ∧ (e_who (e_b r u n) (fun x => e_fac (e_b r u n) nm k x) (a + 1)).2.1 ≤ n := e_who_ok (r := r) (u := u) ih (a + 1) (by omega)
          unfold e_close
          split
          · rename_i h3
            have hl2 : (e_who (e_b r u n) (fun x => e_fac (e_b r u n) nm k x) (a + 1)).2.1 < n := e_b_lt (r := r) (u := u) (fun q => by have := h3.2; rw [q] at this; revert this; decide)
            exact ⟨by simp only; omega, by simp only; omega⟩
          · exact ⟨by simp only; omega, h2.2⟩
        · exact e_leaf_ok hm a ha
    · exact e_num_ok 4 a 0 ha
theorem e_nm_m1 (u : Nat) (A B C : Int32) : e_nm u A B C (-1) = none := by
  unfold e_nm
  by_cases h : u = 0 <;> simp only [h, if_true, if_false] <;> rfl
end E1
/-- the reference's fields in a walk: where it is, how many are open, whether it goes well -/
def p_fw (f : Nat → Int32) (a o : Nat) (q : Bool) : Nat → Int32 := fun k => if k = 8 then nI a else if k = 10 then nI o else if k = 14 then p_b q else f k
theorem fw_u8 (f : Nat → Int32) (a b o : Nat) (q : Bool) : upd (p_fw f a o q) 8 (nI b) = p_fw f b o q := by
  funext k; by_cases h : k = 8 <;> simp [upd, p_fw, h]
theorem fw_u10 (f : Nat → Int32) (a b o : Nat) (q : Bool) : upd (p_fw f a o q) 10 (nI b) = p_fw f a b q := by
  funext k; by_cases h : k = 10 <;> simp [upd, p_fw, h]
theorem fw_u14 (f : Nat → Int32) (a o : Nat) (q w : Bool) : upd (p_fw f a o q) 14 (p_b w) = p_fw f a o w := by
  funext k; by_cases h : k = 14 <;> simp [upd, p_fw, h]
section E2
variable {X : ge_X} {y : ge_Y} {d : Nat} {Q : Option Value → ge_G → Prop} {l : List (Nat × Value)} {st rest : List Value} {g : ge_G} {r f : Nat → Int32} {pc a o : Nat} {q : Bool}
theorem gw_get {idx k : Nat} {fs : List ge_F} {v : Int32} (dg : decode y.2.1 pc = .ok (.getfield idx, 3)) (hf : ge_fl y.1.cls idx 12 k) (hs : ge_SH[76]? = some (.inl (12, fs))) (hb : fs[k]? = some none) (hv : f k = v)
    (kk : ge_A X ge_SH y d Q (pc + 3) l (.int v :: st) (ge_m g r f)) : ge_A X ge_SH y d Q pc l (.ref (ge_ad X.1 76) :: st) (ge_m g r f) := gm_geti dg hf hs hb (by rw [hv]; exact kk)
theorem gw_at {idx b : Nat} {fs : List ge_F} {x : Int32} (dg : decode y.2.1 pc = .ok (.putfield idx, 3)) (hf : ge_fp y.1.cls idx 12 8 .int) (hs : ge_SH[76]? = some (.inl (12, fs))) (hb : fs[8]? = some none) (hx : x = nI b)
    (kk : ge_A X ge_SH y d Q (pc + 3) l st (ge_m g r (p_fw f b o q))) : ge_A X ge_SH y d Q pc l (.int x :: .ref (ge_ad X.1 76) :: st) (ge_m g r (p_fw f a o q)) := gm_puti dg hf hs hb (by rw [hx, fw_u8]; exact kk)
theorem gw_op {idx b : Nat} {fs : List ge_F} {x : Int32} (dg : decode y.2.1 pc = .ok (.putfield idx, 3)) (hf : ge_fp y.1.cls idx 12 10 .int) (hs : ge_SH[76]? = some (.inl (12, fs))) (hb : fs[10]? = some none) (hx : x = nI b)
    (kk : ge_A X ge_SH y d Q (pc + 3) l st (ge_m g r (p_fw f a b q))) : ge_A X ge_SH y d Q pc l (.int x :: .ref (ge_ad X.1 76) :: st) (ge_m g r (p_fw f a o q)) := gm_puti dg hf hs hb (by rw [hx, fw_u10]; exact kk)
theorem gw_gd {idx : Nat} {fs : List ge_F} {x : Int32} {w : Bool} (dg : decode y.2.1 pc = .ok (.putfield idx, 3)) (hf : ge_fp y.1.cls idx 12 14 .boolean) (hs : ge_SH[76]? = some (.inl (12, fs))) (hb : fs[14]? = some none) (hx : x = p_b w)
    (kk : ge_A X ge_SH y d Q (pc + 3) l st (ge_m g r (p_fw f a o w))) : ge_A X ge_SH y d Q pc l (.int x :: .ref (ge_ad X.1 76) :: st) (ge_m g r (p_fw f a o q)) := gm_putz dg hf hs hb (by rw [hx]; cases w <;> exact ⟨rfl, rfl⟩) (by rw [hx, fw_u14]; exact kk)
end E2
